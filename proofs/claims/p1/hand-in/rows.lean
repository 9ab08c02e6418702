section
/-- a private method of a class that the tables say can be made, by its rows of tables_1 -/
def lw_okq (q : MethodName × Nat) : Prop := (q.1.cls ≠ "java/lang/invoke/MethodHandle" ∧ q.1.cls ≠ "java/lang/invoke/VarHandle") ∧ Cond.instantiable q.1.cls q.2 ∈ tables_1 ∧ Cond.privateMethod q.1 ∈ tables_1 ∧ Cond.instanceMethod q.1 ∈ tables_1
theorem lw_p0 : lw_okq (⟨"java/lang/Throwable", "fillInStackTrace", "(I)Ljava/lang/Throwable;"⟩, 6) := ⟨⟨by decide +kernel, by decide +kernel⟩, List.mem_of_getElem? (i := 271) (by decide +kernel), List.mem_of_getElem? (i := 269) (by decide +kernel), List.mem_of_getElem? (i := 270) (by decide +kernel)⟩
theorem lw_p1 : lw_okq (⟨"ThreadHall", "nextReady", "()I"⟩, 12) := ⟨⟨by decide +kernel, by decide +kernel⟩, List.mem_of_getElem? (i := 15) (by decide +kernel), List.mem_of_getElem? (i := 377) (by decide +kernel), List.mem_of_getElem? (i := 378) (by decide +kernel)⟩
theorem lw_p2 : lw_okq (⟨"ThreadHall", "takeTurn", "(LThreadHall$Strand;)V"⟩, 12) := ⟨⟨by decide +kernel, by decide +kernel⟩, List.mem_of_getElem? (i := 15) (by decide +kernel), List.mem_of_getElem? (i := 381) (by decide +kernel), List.mem_of_getElem? (i := 382) (by decide +kernel)⟩
theorem lw_p3 : lw_okq (⟨"ThreadHall", "raise", "(LThreadHall$Strand;I)V"⟩, 12) := ⟨⟨by decide +kernel, by decide +kernel⟩, List.mem_of_getElem? (i := 15) (by decide +kernel), List.mem_of_getElem? (i := 385) (by decide +kernel), List.mem_of_getElem? (i := 386) (by decide +kernel)⟩
theorem lw_p4 : lw_okq (⟨"ThreadHall", "finish", "(LThreadHall$Strand;I)V"⟩, 12) := ⟨⟨by decide +kernel, by decide +kernel⟩, List.mem_of_getElem? (i := 15) (by decide +kernel), List.mem_of_getElem? (i := 390) (by decide +kernel), List.mem_of_getElem? (i := 391) (by decide +kernel)⟩
theorem lw_p5 : lw_okq (⟨"ThreadHall", "runHooks", "(LThreadHall$Strand;)V"⟩, 12) := ⟨⟨by decide +kernel, by decide +kernel⟩, List.mem_of_getElem? (i := 15) (by decide +kernel), List.mem_of_getElem? (i := 394) (by decide +kernel), List.mem_of_getElem? (i := 395) (by decide +kernel)⟩
theorem lw_p6 : lw_okq (⟨"ThreadHall", "read", "(LThreadHall$Strand;I)I"⟩, 12) := ⟨⟨by decide +kernel, by decide +kernel⟩, List.mem_of_getElem? (i := 15) (by decide +kernel), List.mem_of_getElem? (i := 398) (by decide +kernel), List.mem_of_getElem? (i := 399) (by decide +kernel)⟩
theorem lw_p7 : lw_okq (⟨"ThreadHall", "write", "(LThreadHall$Strand;II)V"⟩, 12) := ⟨⟨by decide +kernel, by decide +kernel⟩, List.mem_of_getElem? (i := 15) (by decide +kernel), List.mem_of_getElem? (i := 406) (by decide +kernel), List.mem_of_getElem? (i := 407) (by decide +kernel)⟩
theorem lw_p8 : lw_okq (⟨"ThreadHall", "passOn", "(LThreadHall$Mutex;)V"⟩, 12) := ⟨⟨by decide +kernel, by decide +kernel⟩, List.mem_of_getElem? (i := 15) (by decide +kernel), List.mem_of_getElem? (i := 411) (by decide +kernel), List.mem_of_getElem? (i := 412) (by decide +kernel)⟩
theorem lw_p9 : lw_okq (⟨"ThreadHall", "wakeJoiners", "(LThreadHall$Strand;)V"⟩, 12) := ⟨⟨by decide +kernel, by decide +kernel⟩, List.mem_of_getElem? (i := 15) (by decide +kernel), List.mem_of_getElem? (i := 427) (by decide +kernel), List.mem_of_getElem? (i := 428) (by decide +kernel)⟩
theorem lw_p10 : lw_okq (⟨"ThreadHall", "countInstruction", "(LThreadHall$Strand;)V"⟩, 12) := ⟨⟨by decide +kernel, by decide +kernel⟩, List.mem_of_getElem? (i := 15) (by decide +kernel), List.mem_of_getElem? (i := 431) (by decide +kernel), List.mem_of_getElem? (i := 432) (by decide +kernel)⟩
theorem lw_p11 : lw_okq (⟨"ThreadHall", "perform", "(LThreadHall$Strand;III)I"⟩, 12) := ⟨⟨by decide +kernel, by decide +kernel⟩, List.mem_of_getElem? (i := 15) (by decide +kernel), List.mem_of_getElem? (i := 435) (by decide +kernel), List.mem_of_getElem? (i := 436) (by decide +kernel)⟩
theorem lw_p12 : lw_okq (⟨"ThreadHall", "goFor", "(LThreadHall$Strand;II)V"⟩, 12) := ⟨⟨by decide +kernel, by decide +kernel⟩, List.mem_of_getElem? (i := 15) (by decide +kernel), List.mem_of_getElem? (i := 458) (by decide +kernel), List.mem_of_getElem? (i := 459) (by decide +kernel)⟩
theorem lw_p13 : lw_okq (⟨"ThreadHall", "unlock", "(LThreadHall$Strand;I)I"⟩, 12) := ⟨⟨by decide +kernel, by decide +kernel⟩, List.mem_of_getElem? (i := 15) (by decide +kernel), List.mem_of_getElem? (i := 470) (by decide +kernel), List.mem_of_getElem? (i := 471) (by decide +kernel)⟩
theorem lw_p14 : lw_okq (⟨"ThreadHall", "tryLock", "(LThreadHall$Strand;II)V"⟩, 12) := ⟨⟨by decide +kernel, by decide +kernel⟩, List.mem_of_getElem? (i := 15) (by decide +kernel), List.mem_of_getElem? (i := 474) (by decide +kernel), List.mem_of_getElem? (i := 475) (by decide +kernel)⟩
theorem lw_p15 : lw_okq (⟨"ThreadHall", "beginWait", "(LThreadHall$Strand;II)I"⟩, 12) := ⟨⟨by decide +kernel, by decide +kernel⟩, List.mem_of_getElem? (i := 15) (by decide +kernel), List.mem_of_getElem? (i := 478) (by decide +kernel), List.mem_of_getElem? (i := 479) (by decide +kernel)⟩
def lw_privs_1 : List (MethodName × Nat) := [(⟨"java/lang/Throwable", "fillInStackTrace", "(I)Ljava/lang/Throwable;"⟩, 6), (⟨"ThreadHall", "nextReady", "()I"⟩, 12), (⟨"ThreadHall", "takeTurn", "(LThreadHall$Strand;)V"⟩, 12), (⟨"ThreadHall", "raise", "(LThreadHall$Strand;I)V"⟩, 12), (⟨"ThreadHall", "finish", "(LThreadHall$Strand;I)V"⟩, 12), (⟨"ThreadHall", "runHooks", "(LThreadHall$Strand;)V"⟩, 12), (⟨"ThreadHall", "read", "(LThreadHall$Strand;I)I"⟩, 12), (⟨"ThreadHall", "write", "(LThreadHall$Strand;II)V"⟩, 12), (⟨"ThreadHall", "passOn", "(LThreadHall$Mutex;)V"⟩, 12), (⟨"ThreadHall", "wakeJoiners", "(LThreadHall$Strand;)V"⟩, 12), (⟨"ThreadHall", "countInstruction", "(LThreadHall$Strand;)V"⟩, 12), (⟨"ThreadHall", "perform", "(LThreadHall$Strand;III)I"⟩, 12), (⟨"ThreadHall", "goFor", "(LThreadHall$Strand;II)V"⟩, 12), (⟨"ThreadHall", "unlock", "(LThreadHall$Strand;I)I"⟩, 12), (⟨"ThreadHall", "tryLock", "(LThreadHall$Strand;II)V"⟩, 12), (⟨"ThreadHall", "beginWait", "(LThreadHall$Strand;II)I"⟩, 12)]
theorem lw_r1 : ∀ q ∈ lw_privs_1, lw_okq q := List.forall_mem_cons.mpr ⟨lw_p0, List.forall_mem_cons.mpr ⟨lw_p1, List.forall_mem_cons.mpr ⟨lw_p2, List.forall_mem_cons.mpr ⟨lw_p3, List.forall_mem_cons.mpr ⟨lw_p4, List.forall_mem_cons.mpr ⟨lw_p5, List.forall_mem_cons.mpr ⟨lw_p6, List.forall_mem_cons.mpr ⟨lw_p7, List.forall_mem_cons.mpr ⟨lw_p8, List.forall_mem_cons.mpr ⟨lw_p9, List.forall_mem_cons.mpr ⟨lw_p10, List.forall_mem_cons.mpr ⟨lw_p11, List.forall_mem_cons.mpr ⟨lw_p12, List.forall_mem_cons.mpr ⟨lw_p13, List.forall_mem_cons.mpr ⟨lw_p14, List.forall_mem_cons.mpr ⟨lw_p15, fun _ h => absurd h List.not_mem_nil⟩⟩⟩⟩⟩⟩⟩⟩⟩⟩⟩⟩⟩⟩⟩⟩
theorem lw_p16 : lw_okq (⟨"ThreadHall", "tellFirst", "(LThreadHall$Row;)V"⟩, 12) := ⟨⟨by decide +kernel, by decide +kernel⟩, List.mem_of_getElem? (i := 15) (by decide +kernel), List.mem_of_getElem? (i := 482) (by decide +kernel), List.mem_of_getElem? (i := 483) (by decide +kernel)⟩
theorem lw_p17 : lw_okq (⟨"ThreadHall", "tellAll", "(LThreadHall$Row;)V"⟩, 12) := ⟨⟨by decide +kernel, by decide +kernel⟩, List.mem_of_getElem? (i := 15) (by decide +kernel), List.mem_of_getElem? (i := 486) (by decide +kernel), List.mem_of_getElem? (i := 487) (by decide +kernel)⟩
theorem lw_p18 : lw_okq (⟨"ThreadHall", "beginJoin", "(LThreadHall$Strand;II)I"⟩, 12) := ⟨⟨by decide +kernel, by decide +kernel⟩, List.mem_of_getElem? (i := 15) (by decide +kernel), List.mem_of_getElem? (i := 493) (by decide +kernel), List.mem_of_getElem? (i := 494) (by decide +kernel)⟩
theorem lw_p19 : lw_okq (⟨"ThreadHall", "interruptAlive", "(LThreadHall$Strand;)V"⟩, 12) := ⟨⟨by decide +kernel, by decide +kernel⟩, List.mem_of_getElem? (i := 15) (by decide +kernel), List.mem_of_getElem? (i := 497) (by decide +kernel), List.mem_of_getElem? (i := 498) (by decide +kernel)⟩
theorem lw_p20 : lw_okq (⟨"ThreadHall", "jumpIfZero", "(LThreadHall$Strand;II)V"⟩, 12) := ⟨⟨by decide +kernel, by decide +kernel⟩, List.mem_of_getElem? (i := 15) (by decide +kernel), List.mem_of_getElem? (i := 505) (by decide +kernel), List.mem_of_getElem? (i := 506) (by decide +kernel)⟩
theorem lw_p21 : lw_okq (⟨"ThreadHall", "keepSaid", "(I)V"⟩, 12) := ⟨⟨by decide +kernel, by decide +kernel⟩, List.mem_of_getElem? (i := 15) (by decide +kernel), List.mem_of_getElem? (i := 509) (by decide +kernel), List.mem_of_getElem? (i := 510) (by decide +kernel)⟩
theorem lw_p22 : lw_okq (⟨"ThreadHall", "aliveCount", "()I"⟩, 12) := ⟨⟨by decide +kernel, by decide +kernel⟩, List.mem_of_getElem? (i := 15) (by decide +kernel), List.mem_of_getElem? (i := 569) (by decide +kernel), List.mem_of_getElem? (i := 570) (by decide +kernel)⟩
theorem lw_p23 : lw_okq (⟨"ThreadHall", "readyCount", "()I"⟩, 12) := ⟨⟨by decide +kernel, by decide +kernel⟩, List.mem_of_getElem? (i := 15) (by decide +kernel), List.mem_of_getElem? (i := 573) (by decide +kernel), List.mem_of_getElem? (i := 574) (by decide +kernel)⟩
theorem lw_p24 : lw_okq (⟨"ThreadHallModel", "refuse", "(I)I"⟩, 36) := ⟨⟨by decide +kernel, by decide +kernel⟩, List.mem_of_getElem? (i := 577) (by decide +kernel), List.mem_of_getElem? (i := 707) (by decide +kernel), List.mem_of_getElem? (i := 708) (by decide +kernel)⟩
theorem lw_p25 : lw_okq (⟨"ThreadHallModel", "alive", "(I)Z"⟩, 36) := ⟨⟨by decide +kernel, by decide +kernel⟩, List.mem_of_getElem? (i := 577) (by decide +kernel), List.mem_of_getElem? (i := 711) (by decide +kernel), List.mem_of_getElem? (i := 712) (by decide +kernel)⟩
theorem lw_p26 : lw_okq (⟨"ThreadHallModel", "ready", "()I"⟩, 36) := ⟨⟨by decide +kernel, by decide +kernel⟩, List.mem_of_getElem? (i := 577) (by decide +kernel), List.mem_of_getElem? (i := 723) (by decide +kernel), List.mem_of_getElem? (i := 724) (by decide +kernel)⟩
theorem lw_p27 : lw_okq (⟨"ThreadHallModel", "turn", "(I)V"⟩, 36) := ⟨⟨by decide +kernel, by decide +kernel⟩, List.mem_of_getElem? (i := 577) (by decide +kernel), List.mem_of_getElem? (i := 727) (by decide +kernel), List.mem_of_getElem? (i := 728) (by decide +kernel)⟩
theorem lw_p28 : lw_okq (⟨"ThreadHallModel", "error", "(II)V"⟩, 36) := ⟨⟨by decide +kernel, by decide +kernel⟩, List.mem_of_getElem? (i := 577) (by decide +kernel), List.mem_of_getElem? (i := 731) (by decide +kernel), List.mem_of_getElem? (i := 732) (by decide +kernel)⟩
theorem lw_p29 : lw_okq (⟨"ThreadHallModel", "end", "(II)V"⟩, 36) := ⟨⟨by decide +kernel, by decide +kernel⟩, List.mem_of_getElem? (i := 577) (by decide +kernel), List.mem_of_getElem? (i := 735) (by decide +kernel), List.mem_of_getElem? (i := 736) (by decide +kernel)⟩
theorem lw_p30 : lw_okq (⟨"ThreadHallModel", "get", "(II)I"⟩, 36) := ⟨⟨by decide +kernel, by decide +kernel⟩, List.mem_of_getElem? (i := 577) (by decide +kernel), List.mem_of_getElem? (i := 739) (by decide +kernel), List.mem_of_getElem? (i := 740) (by decide +kernel)⟩
theorem lw_p31 : lw_okq (⟨"ThreadHallModel", "bound", "(II)I"⟩, 36) := ⟨⟨by decide +kernel, by decide +kernel⟩, List.mem_of_getElem? (i := 577) (by decide +kernel), List.mem_of_getElem? (i := 743) (by decide +kernel), List.mem_of_getElem? (i := 744) (by decide +kernel)⟩
def lw_privs_2 : List (MethodName × Nat) := [(⟨"ThreadHall", "tellFirst", "(LThreadHall$Row;)V"⟩, 12), (⟨"ThreadHall", "tellAll", "(LThreadHall$Row;)V"⟩, 12), (⟨"ThreadHall", "beginJoin", "(LThreadHall$Strand;II)I"⟩, 12), (⟨"ThreadHall", "interruptAlive", "(LThreadHall$Strand;)V"⟩, 12), (⟨"ThreadHall", "jumpIfZero", "(LThreadHall$Strand;II)V"⟩, 12), (⟨"ThreadHall", "keepSaid", "(I)V"⟩, 12), (⟨"ThreadHall", "aliveCount", "()I"⟩, 12), (⟨"ThreadHall", "readyCount", "()I"⟩, 12), (⟨"ThreadHallModel", "refuse", "(I)I"⟩, 36), (⟨"ThreadHallModel", "alive", "(I)Z"⟩, 36), (⟨"ThreadHallModel", "ready", "()I"⟩, 36), (⟨"ThreadHallModel", "turn", "(I)V"⟩, 36), (⟨"ThreadHallModel", "error", "(II)V"⟩, 36), (⟨"ThreadHallModel", "end", "(II)V"⟩, 36), (⟨"ThreadHallModel", "get", "(II)I"⟩, 36), (⟨"ThreadHallModel", "bound", "(II)I"⟩, 36)]
theorem lw_r2 : ∀ q ∈ lw_privs_2, lw_okq q := List.forall_mem_cons.mpr ⟨lw_p16, List.forall_mem_cons.mpr ⟨lw_p17, List.forall_mem_cons.mpr ⟨lw_p18, List.forall_mem_cons.mpr ⟨lw_p19, List.forall_mem_cons.mpr ⟨lw_p20, List.forall_mem_cons.mpr ⟨lw_p21, List.forall_mem_cons.mpr ⟨lw_p22, List.forall_mem_cons.mpr ⟨lw_p23, List.forall_mem_cons.mpr ⟨lw_p24, List.forall_mem_cons.mpr ⟨lw_p25, List.forall_mem_cons.mpr ⟨lw_p26, List.forall_mem_cons.mpr ⟨lw_p27, List.forall_mem_cons.mpr ⟨lw_p28, List.forall_mem_cons.mpr ⟨lw_p29, List.forall_mem_cons.mpr ⟨lw_p30, List.forall_mem_cons.mpr ⟨lw_p31, fun _ h => absurd h List.not_mem_nil⟩⟩⟩⟩⟩⟩⟩⟩⟩⟩⟩⟩⟩⟩⟩⟩
theorem lw_p32 : lw_okq (⟨"ThreadHallModel", "put", "(III)V"⟩, 36) := ⟨⟨by decide +kernel, by decide +kernel⟩, List.mem_of_getElem? (i := 577) (by decide +kernel), List.mem_of_getElem? (i := 747) (by decide +kernel), List.mem_of_getElem? (i := 748) (by decide +kernel)⟩
theorem lw_p33 : lw_okq (⟨"ThreadHallModel", "pass", "(I)V"⟩, 36) := ⟨⟨by decide +kernel, by decide +kernel⟩, List.mem_of_getElem? (i := 577) (by decide +kernel), List.mem_of_getElem? (i := 751) (by decide +kernel), List.mem_of_getElem? (i := 752) (by decide +kernel)⟩
theorem lw_p34 : lw_okq (⟨"ThreadHallModel", "act", "(IIII)V"⟩, 36) := ⟨⟨by decide +kernel, by decide +kernel⟩, List.mem_of_getElem? (i := 577) (by decide +kernel), List.mem_of_getElem? (i := 755) (by decide +kernel), List.mem_of_getElem? (i := 756) (by decide +kernel)⟩
theorem lw_p35 : lw_okq (⟨"ThreadHallModel", "bind", "(III)V"⟩, 36) := ⟨⟨by decide +kernel, by decide +kernel⟩, List.mem_of_getElem? (i := 577) (by decide +kernel), List.mem_of_getElem? (i := 759) (by decide +kernel), List.mem_of_getElem? (i := 760) (by decide +kernel)⟩
theorem lw_p36 : lw_okq (⟨"ThreadHallModel", "unbind", "(II)V"⟩, 36) := ⟨⟨by decide +kernel, by decide +kernel⟩, List.mem_of_getElem? (i := 577) (by decide +kernel), List.mem_of_getElem? (i := 763) (by decide +kernel), List.mem_of_getElem? (i := 764) (by decide +kernel)⟩
theorem lw_p37 : lw_okq (⟨"ThreadHallModel", "locks", "(IIII)V"⟩, 36) := ⟨⟨by decide +kernel, by decide +kernel⟩, List.mem_of_getElem? (i := 577) (by decide +kernel), List.mem_of_getElem? (i := 767) (by decide +kernel), List.mem_of_getElem? (i := 768) (by decide +kernel)⟩
theorem lw_p38 : lw_okq (⟨"ThreadHallModel", "goFor", "(III)V"⟩, 36) := ⟨⟨by decide +kernel, by decide +kernel⟩, List.mem_of_getElem? (i := 577) (by decide +kernel), List.mem_of_getElem? (i := 771) (by decide +kernel), List.mem_of_getElem? (i := 772) (by decide +kernel)⟩
theorem lw_p39 : lw_okq (⟨"ThreadHallModel", "await", "(III)V"⟩, 36) := ⟨⟨by decide +kernel, by decide +kernel⟩, List.mem_of_getElem? (i := 577) (by decide +kernel), List.mem_of_getElem? (i := 775) (by decide +kernel), List.mem_of_getElem? (i := 776) (by decide +kernel)⟩
theorem lw_p40 : lw_okq (⟨"ThreadHallModel", "isStopped", "(I)Z"⟩, 36) := ⟨⟨by decide +kernel, by decide +kernel⟩, List.mem_of_getElem? (i := 577) (by decide +kernel), List.mem_of_getElem? (i := 779) (by decide +kernel), List.mem_of_getElem? (i := 780) (by decide +kernel)⟩
theorem lw_p41 : lw_okq (⟨"ThreadHallModel", "leaveWait", "(I)V"⟩, 36) := ⟨⟨by decide +kernel, by decide +kernel⟩, List.mem_of_getElem? (i := 577) (by decide +kernel), List.mem_of_getElem? (i := 783) (by decide +kernel), List.mem_of_getElem? (i := 784) (by decide +kernel)⟩
theorem lw_p42 : lw_okq (⟨"ThreadHallModel", "begin", "(I)Z"⟩, 36) := ⟨⟨by decide +kernel, by decide +kernel⟩, List.mem_of_getElem? (i := 577) (by decide +kernel), List.mem_of_getElem? (i := 787) (by decide +kernel), List.mem_of_getElem? (i := 788) (by decide +kernel)⟩
theorem lw_p43 : lw_okq (⟨"ThreadHallModel", "join", "(III)V"⟩, 36) := ⟨⟨by decide +kernel, by decide +kernel⟩, List.mem_of_getElem? (i := 577) (by decide +kernel), List.mem_of_getElem? (i := 791) (by decide +kernel), List.mem_of_getElem? (i := 792) (by decide +kernel)⟩
theorem lw_p44 : lw_okq (⟨"ThreadHallModel", "interrupted", "(I)Z"⟩, 36) := ⟨⟨by decide +kernel, by decide +kernel⟩, List.mem_of_getElem? (i := 577) (by decide +kernel), List.mem_of_getElem? (i := 795) (by decide +kernel), List.mem_of_getElem? (i := 796) (by decide +kernel)⟩
theorem lw_p45 : lw_okq (⟨"ThreadHallModel", "leaveJoin", "(I)V"⟩, 36) := ⟨⟨by decide +kernel, by decide +kernel⟩, List.mem_of_getElem? (i := 577) (by decide +kernel), List.mem_of_getElem? (i := 799) (by decide +kernel), List.mem_of_getElem? (i := 800) (by decide +kernel)⟩
def lw_privs_3 : List (MethodName × Nat) := [(⟨"ThreadHallModel", "put", "(III)V"⟩, 36), (⟨"ThreadHallModel", "pass", "(I)V"⟩, 36), (⟨"ThreadHallModel", "act", "(IIII)V"⟩, 36), (⟨"ThreadHallModel", "bind", "(III)V"⟩, 36), (⟨"ThreadHallModel", "unbind", "(II)V"⟩, 36), (⟨"ThreadHallModel", "locks", "(IIII)V"⟩, 36), (⟨"ThreadHallModel", "goFor", "(III)V"⟩, 36), (⟨"ThreadHallModel", "await", "(III)V"⟩, 36), (⟨"ThreadHallModel", "isStopped", "(I)Z"⟩, 36), (⟨"ThreadHallModel", "leaveWait", "(I)V"⟩, 36), (⟨"ThreadHallModel", "begin", "(I)Z"⟩, 36), (⟨"ThreadHallModel", "join", "(III)V"⟩, 36), (⟨"ThreadHallModel", "interrupted", "(I)Z"⟩, 36), (⟨"ThreadHallModel", "leaveJoin", "(I)V"⟩, 36)]
theorem lw_r3 : ∀ q ∈ lw_privs_3, lw_okq q := List.forall_mem_cons.mpr ⟨lw_p32, List.forall_mem_cons.mpr ⟨lw_p33, List.forall_mem_cons.mpr ⟨lw_p34, List.forall_mem_cons.mpr ⟨lw_p35, List.forall_mem_cons.mpr ⟨lw_p36, List.forall_mem_cons.mpr ⟨lw_p37, List.forall_mem_cons.mpr ⟨lw_p38, List.forall_mem_cons.mpr ⟨lw_p39, List.forall_mem_cons.mpr ⟨lw_p40, List.forall_mem_cons.mpr ⟨lw_p41, List.forall_mem_cons.mpr ⟨lw_p42, List.forall_mem_cons.mpr ⟨lw_p43, List.forall_mem_cons.mpr ⟨lw_p44, List.forall_mem_cons.mpr ⟨lw_p45, fun _ h => absurd h List.not_mem_nil⟩⟩⟩⟩⟩⟩⟩⟩⟩⟩⟩⟩⟩⟩
def lw_privs : List (MethodName × Nat) := lw_privs_1 ++ (lw_privs_2 ++ (lw_privs_3))
def lw_tbl : List Cond := k2_sels lw_privs ++ tables_1
theorem lw_privs_ok : ∀ q ∈ lw_privs, lw_okq q := by
  show ∀ q ∈ lw_privs_1 ++ (lw_privs_2 ++ (lw_privs_3)), lw_okq q
  exact List.forall_mem_append.mpr ⟨lw_r1, List.forall_mem_append.mpr ⟨lw_r2, lw_r3⟩⟩
end
section
/-! ===== BEGIN words of one list among another's, by their places ===== -/
theorem goodIn_r {big : List Cond} (ws : List Cond) (ps : List Nat) (hp : ws = ps.filterMap (fun i => big[i]?)) (h : ws.all goodWord = true) : GoodIn big ws := by
  intro w hw
  have h1 := List.all_eq_true.mp h w hw
  rw [hp] at hw
  obtain ⟨i, -, hi⟩ := List.mem_filterMap.mp hw
  have hm : w ∈ big := by first | exact List.mem_of_getElem? hi | exact List.getElem?_mem hi
  exact ⟨hm, good_of_word h1⟩
theorem goodIn_app {big a b : List Cond} (ha : GoodIn big a) (hb : GoodIn big b) : GoodIn big (a ++ b) := fun w h => (List.mem_append.mp h).elim (ha w) (hb w)
theorem goodIn_ca {big a b : List Cond} {c : Cond} (ha : GoodIn big (c :: a)) (hb : GoodIn big b) : GoodIn big (c :: (a ++ b)) := fun w h => (List.mem_cons.mp h).elim (fun e => ha w (List.mem_cons.mpr (Or.inl e))) (fun h => (List.mem_append.mp h).elim (fun h => ha w (List.mem_cons.mpr (Or.inr h))) (hb w))
theorem goodIn_sub {big ws : List Cond} (hm : ∀ w ∈ ws, w ∈ big) (h : ws.all goodWord = true) : GoodIn big ws := fun w hw => ⟨hm w hw, good_of_word (List.all_eq_true.mp h w hw)⟩
/-! ===== END ===== -/

/-! ===== BEGIN exceptions that leave a method, and their catching by the caller (launches without stack traces) ===== -/
section VXA
/-! The laws vx_back, vx_callV, vx_callS, vx_callSW, vx_throw0, vx_throwS follow proofs of the library, with one case more: JvmDerived/Free/Laws.lean (Back.of_free), Shelf42/LK1.lean (callV, callS), Shelf/KitTraced.lean (throwNew0V, throwNewS). -/
/-- where a method has thrown q: the class by its name, the cell, what was written, the world -/
def vx_T (XC : String → State → State → Prop) (st : State) (q : Addr) (t : State) (mc ms : Nat) (free : Addr → Prop) : Prop :=
  ∃ (E : String) (ce : Cell) (L : List Loc), XC E st t ∧ t.heap[q]? = some ce ∧ ce.vm = .none ∧ st.vm.findClass E = some ce.cls ∧ st.WarmedH t.vm ∧ st.sameButNew ({ t with vm := st.vm } : State) L mc ms ∧ ∀ z ∈ L, free z.base
def vx_Q (Qc : Array Value → State → Outcome → State → Prop) (XC : String → State → State → Prop) (mc ms : Nat) (free : Addr → Prop) : Array Value → State → Outcome → State → Prop := fun a st o t =>
  (Qc a st o t ∧ ∃ L, FrameEnd st o t L mc ms ∧ ∀ q ∈ L, free q.base) ∨ ∃ q, o = .threw q ∧ vx_T XC st q t mc ms free
/-- a callee that returns or throws -/
def vx_Met (l : Launch) (y : MethodName) (ws : List Cond) (rm : Room) (Pc : Array Value → State → Prop) (Qc : Array Value → State → Outcome → State → Prop) (XC : String → State → State → Prop) (mc ms : Nat) (free : Addr → Prop) : Prop :=
  MetFree l y (headSpec ws rm) Pc (fun _ _ _ _ _ => True) (vx_Q Qc XC mc ms free)
def vx_Post (XC : String → State → State → Prop) (mc ms : Nat) (free : Addr → Prop) : Pt → Array Value → Addr → Pt → Prop := fun A a q B =>
  ∃ (g : JFrame) (mk : MethodId) (t : State) (L : List Loc) (E : String) (ce : Cell), B.U.heap = t.heap ∧ B.U.vm = t.vm ∧ XC E (A.U.calling g mk a) t ∧ t.heap[q]? = some ce ∧ ce.vm = .none ∧ A.U.vm.findClass E = some ce.cls ∧ B.locs = A.locs ++ L ∧ (∀ z ∈ L, free z.base) ∧ B.cells = A.cells + mc ∧ B.slots = A.slots + ms
def vx_Back (l : Launch) (R : Room) (p : Program) (e : Env) (below : List Frame) (s : State) (sargs : Array Value) (y : MethodName) (len W9 : Nat)
    (Pre : Pt → Array Value → Prop) (Post : Pt → Array Value → Option Value → Pt → Prop) (PostX : Pt → Array Value → Addr → Pt → Prop) : Prop :=
  ∀ (m : MethodId) (meth : Method) (c : Code) (A : Pt) (g : JFrame) (ig : Instr) (mk : MethodId) (a : Array Value),
    Stand p l e R s m sargs below meth c A.U A.locs A.cells A.slots → g.method = m → g.locals.size = c.maxLocals → decode c.code g.pc = .ok (ig, len) →
    2 * g.monitorRoom + (g.stack.map fun v => v.category).sum ≤ W9 → A.U.methodNamed? y = some mk → Pre A a →
    (∃ (v : Option Value) (B : Pt), Stand p l e R s m sargs below meth c B.U B.locs B.cells B.slots ∧ Post A a v B ∧
      Steps p.tables e below (doInvoke e (A.U.setTop g) [] mk a).1 (B.U.setTop { g with pc := g.pc + len, stack := v.toList ++ g.stack })) ∨
    (∃ (q : Addr) (B : Pt), Stand p l e R s m sargs below meth c B.U B.locs B.cells B.slots ∧ PostX A a q B ∧
      Steps p.tables e below (doInvoke e (A.U.setTop g) [] mk a).1 ((B.U.setTop g).pushFrame (.throwing q)))
section Payer
variable {l : Launch} {R : Room} {p : Program} {e : Env} {below : List Frame} {s : State} {sargs : Array Value} {y : MethodName} {len W9 : Nat}
theorem vx_back {ws : List Cond} {rm : Room} {Pc : Array Value → State → Prop} {Qc : Array Value → State → Outcome → State → Prop} {XC : String → State → State → Prop} {mc ms : Nat} {free : Addr → Prop} {bytes : ByteArray} {maxL : Nat} {ret : Option FieldType}
    (hM : vx_Met l y ws rm Pc Qc XC mc ms free) (hblind : FrameBlind Pc) (hrc : rm.cells = mc) (hrs : rm.slots = ms)
    (hframes : rm.frames + 1 ≤ R.frames) (hlocals : W9 + (maxL + 11) + rm.locals ≤ R.locals)
    (hws : ∀ w ∈ ws, ∀ a' U, s.WarmedH U.vm → w.before a' U = true) (hcode : Cond.code y bytes maxL ret ∈ ws) (hinit : ∀ a' U, s.WarmedH U.vm → (Cond.initialized y.cls).before a' U = true) :
    vx_Back l R p e below s sargs y len W9 (PreOf R mc ms Pc) (PostOf Qc mc ms free) (vx_Post XC mc ms free) := by
  intro m meth c A g ig mk a X hg hsize hdg hW hn hp
  have h1 : (headSpec ws rm).pre.before a A.U = true := atoms_intro fun w hw => hws w hw _ _ X.warmed
  have h2 : (Cond.code y bytes maxL ret).before a A.U = true := hws _ hcode _ _ X.warmed
  have h3 : (Cond.initialized y.cls).before a A.U = true := hinit _ _ X.warmed
  have h4 : A.cells + (headSpec ws rm).room.cells ≤ R.cells := by rw [show (headSpec ws rm).room.cells = mc from hrc]; exact hp.1
  have h5 : A.slots + (headSpec ws rm).room.slots ≤ R.slots := by rw [show (headSpec ws rm).room.slots = ms from hrs]; exact hp.2.1
  have hPc : Pc a (A.U.calling g mk a) := hblind _ _ _ _ hp.2.2
  obtain ⟨U, Ls, c0, s0⟩ := A
  dsimp only [Pt.U, Pt.locs, Pt.cells, Pt.slots] at h1 h2 h3 h4 h5 X hn hPc ⊢
  obtain ⟨methY, cY, hmY, hcY, -, hlY, -, -, -, -⟩ := Cond.code_spec hn h2
  obtain ⟨kY, hkY, -⟩ := className_of_methodNamed hn
  have hinitY : kY.init = .initialized := Cond.initialized_spec (findClass_of_methodNamed hn) hkY h3
  have h : At U g.method c below := by rw [hg]; exact X.here
  have hlocals9 : W9 + (maxL + 11) + (headSpec ws rm).room.locals ≤ R.locals := hlocals
  have happ : (headSpec ws rm).appliesLoose y e.platform (U.calling g mk a) = true :=
    Spec.appliesLoose_calling (g := g) h hdg hn hkY hinitY
      (X.room_calling (g := g) (R' := (headSpec ws rm).room) hsize hmY hcY hframes (by rw [hlY]; omega) h4 h5) h1
  obtain ⟨mid, hmid⟩ := h.above
  have hfr : (U.setTop g).frames = (.java g :: mid) ++ below := by rw [State.frames_setTop' g h.top, hmid]; rfl
  obtain ⟨o, s₂, hsteps, -, hend, hq⟩ := Steps.callFree hM p X.admits X.cas X.clock (acts := []) hfr happ hPc trivial
  have hq' : vx_Q Qc XC mc ms free a (U.calling g mk a) o s₂ := hq
  rw [State.frames_setTop' g h.top] at hend
  obtain ⟨g₀, hg0⟩ := Option.isSome_iff_exists.mp h.top
  obtain ⟨r, hr⟩ := State.topJava?_eq_some.mp hg0
  have hr' : (({ U with heap := s₂.heap, slotsUsed := s₂.slotsUsed } : State).setVm s₂.vm).frames = .java g₀ :: r := hr
  rcases hq' with ⟨hqc, L, hfe, hL⟩ | ⟨q, rfl, E, ce, L, hx, hce, hcv, hcl, hW₂, hsm, hL⟩
  · obtain ⟨⟨v, rfl⟩, hW₂, e2, q2, q3, q4, q5, q6⟩ := id hfe
    have e3 : s₂ = ({ (U.calling g mk a).setFrames s₂.frames with heap := s₂.heap, slotsUsed := s₂.slotsUsed } : State).setVm s₂.vm := by
      have : s₂ = ({ s₂ with vm := (U.calling g mk a).vm } : State).setVm s₂.vm := rfl
      rw [e2] at this
      exact this
    obtain ⟨c₂, i₂, len₂, hc₂, hd₂, hf₂⟩ := hend
    have hW' : U.WarmedH s₂.vm := hW₂
    have hcc : c₂ = c := by
      have h1 : s₂.code? g.method = U.code? g.method := by
        rw [State.code?_eq, State.code?_eq, hW'.alike.method?]
      exact Option.some.inj (hc₂.symm.trans (h1.trans h.code))
    subst hcc
    have hlen : len₂ = len := by rw [hdg] at hd₂; cases hd₂; rfl
    subst hlen
    have hs₂ : s₂ = (({ U with heap := s₂.heap, slotsUsed := s₂.slotsUsed } : State).setVm s₂.vm).setTop { g with pc := g.pc + len₂, stack := v.toList ++ g.stack } := by
      refine e3.trans ?_
      rw [hf₂, State.calling_eq h.top, State.setFrames_setFrames, State.setTop_of_frames _ hr', hr]
      rfl
    have hsame : U.sameButNew ({ U with heap := s₂.heap, slotsUsed := s₂.slotsUsed } : State) L mc ms := by
      refine ⟨?_, q2, q3, q4, q5, q6⟩
      obtain ⟨t, ht, -⟩ := State.frames_cons hr
      show ({ U with heap := s₂.heap, slotsUsed := s₂.slotsUsed } : State) = { U.setFrames U.frames with heap := s₂.heap, slotsUsed := s₂.slotsUsed }
      rw [State.setFrames_self ht]
    subst hg
    refine Or.inl ⟨v, ⟨(({ U with heap := s₂.heap, slotsUsed := s₂.slotsUsed } : State).setVm s₂.vm), Ls ++ L, c0 + mc, s0 + ms⟩,
      ⟨X.admits, X.cas, X.clock, X.frames, X.room, X.hears, X.method, X.code, (X.here.setHeapUsed s₂.heap s₂.slotsUsed).setVm hW'.alike, X.tail, State.WarmedH.trans X.warmed hW', X.limits, X.bytes, X.same.trans (hsame.setVm s.vm)⟩,
      ⟨g, mk, s₂, L, rfl, rfl, hqc, rfl, hL, rfl, rfl⟩, ?_⟩
    show Steps p.tables e below _ ((({ U with heap := s₂.heap, slotsUsed := s₂.slotsUsed } : State).setVm s₂.vm).setTop { g with pc := g.pc + len₂, stack := v.toList ++ g.stack })
    rw [← hs₂]
    exact hsteps
  · obtain ⟨e2, q2, q3, q4, q5, q6⟩ := id hsm
    have e3 : s₂ = ({ (U.calling g mk a).setFrames s₂.frames with heap := s₂.heap, slotsUsed := s₂.slotsUsed } : State).setVm s₂.vm := by
      have : s₂ = ({ s₂ with vm := (U.calling g mk a).vm } : State).setVm s₂.vm := rfl
      rw [e2] at this
      exact this
    have hf₂ : s₂.frames = .throwing q :: .java g :: U.frames.tail := hend
    have hW' : U.WarmedH s₂.vm := hW₂
    have hs₂ : s₂ = ((({ U with heap := s₂.heap, slotsUsed := s₂.slotsUsed } : State).setVm s₂.vm).setTop g).pushFrame (.throwing q) := by
      refine e3.trans ?_
      rw [hf₂, State.calling_eq h.top, State.setFrames_setFrames, State.pushFrame, State.frames_setTop _ hr', State.setTop_of_frames _ hr', State.setFrames_setFrames, hr]
      rfl
    have hsame : U.sameButNew ({ U with heap := s₂.heap, slotsUsed := s₂.slotsUsed } : State) L mc ms := by
      refine ⟨?_, q2, q3, q4, q5, q6⟩
      obtain ⟨t, ht, -⟩ := State.frames_cons hr
      show ({ U with heap := s₂.heap, slotsUsed := s₂.slotsUsed } : State) = { U.setFrames U.frames with heap := s₂.heap, slotsUsed := s₂.slotsUsed }
      rw [State.setFrames_self ht]
    subst hg
    refine Or.inr ⟨q, ⟨(({ U with heap := s₂.heap, slotsUsed := s₂.slotsUsed } : State).setVm s₂.vm), Ls ++ L, c0 + mc, s0 + ms⟩,
      ⟨X.admits, X.cas, X.clock, X.frames, X.room, X.hears, X.method, X.code, (X.here.setHeapUsed s₂.heap s₂.slotsUsed).setVm hW'.alike, X.tail, State.WarmedH.trans X.warmed hW', X.limits, X.bytes, X.same.trans (hsame.setVm s.vm)⟩,
      ⟨g, mk, s₂, L, E, ce, rfl, rfl, hx, hce, hcv, hcl, rfl, hL, rfl, rfl⟩, ?_⟩
    show Steps p.tables e below _ (((({ U with heap := s₂.heap, slotsUsed := s₂.slotsUsed } : State).setVm s₂.vm).setTop g).pushFrame (.throwing q))
    rw [← hs₂]
    exact hsteps
end Payer
section Calls
variable {p : Program} {l : Launch} {e : Env} {R : Room} {s : State} {m : MethodId} {args : Array Value} {below : List Frame} {meth : Method} {c : Code} {T : State} {locs : List Loc} {cells slots : Nat}
theorem vx_callV (X : Stand p l e R s m args below meth c T locs cells slots) (hexec : p.tables.exec = Jvm.exec) {own C : String} {index : Nat} {y : MethodName} {bytes : ByteArray} {maxL : Nat} {ret : Option FieldType}
    (hown : s.vm.findClass own = some m.cls) (hlink : (Cond.methodLink own index y).before args s = true) (hinst : (Cond.instanceMethod y).before args s = true) (hsel : (Cond.selects C y y).before args s = true)
    (hcode : (Cond.code y bytes maxL ret).before args s = true) (hy : y.cls ≠ "java/lang/invoke/MethodHandle" ∧ y.cls ≠ "java/lang/invoke/VarHandle")
    {W9 : Nat} {Pre : Pt → Array Value → Prop} {Post : Pt → Array Value → Option Value → Pt → Prop} {PostX : Pt → Array Value → Addr → Pt → Prop} (hK : vx_Back l R p e below s args y 3 W9 Pre Post PostX)
    {b : Addr} {cellB : Cell} (hcell : T.heap[b]? = some cellB) (hobj : cellB.vm.isStatics = false) (hcls : s.vm.findClass C = some cellB.cls)
    {g : JFrame} (hg : g.method = m) (hsize : g.locals.size = c.maxLocals) {argsL rest : List Value} (hlen : ∀ sig, parseMethodDescriptor y.desc = some sig → argsL.length = sig.parameters.length)
    (hstack : g.stack = argsL.reverse ++ .ref b :: rest) (hW : 2 * g.monitorRoom + (rest.map fun v => v.category).sum ≤ W9) (hdg : decode c.code g.pc = .ok (.invokevirtual index, 3))
    (hpre : ∀ vm₁, s.WarmedH vm₁ → Pre ⟨T.setVm vm₁, locs, cells, slots⟩ (Value.ref b :: argsL).toArray) :
    (∃ (v : Option Value) (vm₁ : Vm) (B : Pt), s.WarmedH vm₁ ∧ Stand p l e R s m args below meth c B.U B.locs B.cells B.slots ∧ Post ⟨T.setVm vm₁, locs, cells, slots⟩ (Value.ref b :: argsL).toArray v B ∧
      ∀ target, Steps p.tables e below (B.U.setTop { g with pc := g.pc + 3, stack := v.toList ++ rest }) target → Steps p.tables e below (T.setTop g) target) ∨
    (∃ (q : Addr) (vm₁ : Vm) (B : Pt), s.WarmedH vm₁ ∧ Stand p l e R s m args below meth c B.U B.locs B.cells B.slots ∧ PostX ⟨T.setVm vm₁, locs, cells, slots⟩ (Value.ref b :: argsL).toArray q B ∧
      Steps p.tables e below (T.setTop g) ((B.U.setTop { g with stack := rest }).pushFrame (.throwing q))) := by
  obtain ⟨mk, methM, hnamed, hmethM, hstM, habM⟩ := Cond.instanceMethod_spec hinst
  obtain ⟨methM', cM, hmethM', -, -, -, -, -, -, hsigM⟩ := Cond.code_spec hnamed hcode
  cases hmethM.symm.trans hmethM'
  obtain ⟨c2, r2, m2, q1, q2, q3, q4, kP, hkP, hkPi⟩ := Cond.selects_spec hsel
  cases hcls.symm.trans q1
  cases (State.methodFound?_of_named hnamed hy).symm.trans q2
  cases hnamed.symm.trans q3
  have hselP : selectMethod e.platform s.vm cellB.cls mk = .method mk := by rw [Launch.admits_selectMethod X.admits]; exact q4
  obtain ⟨vm₁, X₁, hstep₁⟩ := X.invokevirtual hexec hown hlink hnamed hmethM hstM hkP hkPi hy (a := b) (cell := cellB) hcell
    (fun z h => by rw [h] at hobj; cases hobj) hselP hmethM habM hkP hkPi (g := g) hg (argsL := argsL) (rest := rest) (hlen _ hsigM) hstack hdg
  rcases hK m meth c ⟨T.setVm vm₁, locs, cells, slots⟩ { g with stack := rest } (.invokevirtual index) mk (Value.ref b :: argsL).toArray X₁ hg hsize hdg hW (X₁.named hnamed) (hpre vm₁ X₁.warmed) with ⟨v, B, X', hpost, hsteps⟩ | ⟨q, B, X', hpost, hsteps⟩
  · exact Or.inl ⟨v, vm₁, B, X₁.warmed, X', hpost, fun target h => hstep₁ _ fun acts => by rw [doInvoke_state]; exact hsteps.trans h⟩
  · exact Or.inr ⟨q, vm₁, B, X₁.warmed, X', hpost, hstep₁ _ fun acts => by rw [doInvoke_state]; exact hsteps⟩
theorem vx_callS (X : Stand p l e R s m args below meth c T locs cells slots) (hexec : p.tables.exec = Jvm.exec) {own : String} {index : Nat} {y : MethodName} {bytes : ByteArray} {maxL : Nat} {ret : Option FieldType}
    (hown : s.vm.findClass own = some m.cls) (hlink : (Cond.methodLink own index y).before args s = true) (hstat : (Cond.static y).before args s = true) (hinit : (Cond.initialized y.cls).before args s = true)
    (hcode : (Cond.code y bytes maxL ret).before args s = true) (hy : y.cls ≠ "java/lang/invoke/MethodHandle" ∧ y.cls ≠ "java/lang/invoke/VarHandle")
    {W9 : Nat} {Pre : Pt → Array Value → Prop} {Post : Pt → Array Value → Option Value → Pt → Prop} {PostX : Pt → Array Value → Addr → Pt → Prop} (hK : vx_Back l R p e below s args y 3 W9 Pre Post PostX)
    {g : JFrame} (hg : g.method = m) (hsize : g.locals.size = c.maxLocals) {argsL rest : List Value} (hlen : ∀ sig, parseMethodDescriptor y.desc = some sig → argsL.length = sig.parameters.length)
    (hstack : g.stack = argsL.reverse ++ rest) (hW : 2 * g.monitorRoom + (rest.map fun v => v.category).sum ≤ W9) (hdg : decode c.code g.pc = .ok (.invokestatic index, 3))
    (hpre : ∀ vm₁, s.WarmedH vm₁ → Pre ⟨T.setVm vm₁, locs, cells, slots⟩ argsL.toArray) :
    (∃ (v : Option Value) (vm₁ : Vm) (B : Pt), s.WarmedH vm₁ ∧ Stand p l e R s m args below meth c B.U B.locs B.cells B.slots ∧ Post ⟨T.setVm vm₁, locs, cells, slots⟩ argsL.toArray v B ∧
      ∀ target, Steps p.tables e below (B.U.setTop { g with pc := g.pc + 3, stack := v.toList ++ rest }) target → Steps p.tables e below (T.setTop g) target) ∨
    (∃ (q : Addr) (vm₁ : Vm) (B : Pt), s.WarmedH vm₁ ∧ Stand p l e R s m args below meth c B.U B.locs B.cells B.slots ∧ PostX ⟨T.setVm vm₁, locs, cells, slots⟩ argsL.toArray q B ∧
      Steps p.tables e below (T.setTop g) ((B.U.setTop { g with stack := rest }).pushFrame (.throwing q))) := by
  obtain ⟨mk, hnamed⟩ := Cond.code_named hcode
  obtain ⟨methM, cM, hmethM, -, -, -, -, -, -, hsigM⟩ := Cond.code_spec hnamed hcode
  have hstatic : methM.isStatic = true := Cond.static_spec hnamed hmethM hstat
  obtain ⟨kP, hkP, -⟩ := className_of_methodNamed hnamed
  have hinitP : kP.init = .initialized := Cond.initialized_spec (findClass_of_methodNamed hnamed) hkP hinit
  obtain ⟨vm₁, X₁, hstep₁⟩ := X.invokestatic hexec hown hlink hnamed hmethM hstatic hkP hinitP hy (g := g) hg (argsL := argsL) (rest := rest) (hlen _ hsigM) hstack hdg
  rcases hK m meth c ⟨T.setVm vm₁, locs, cells, slots⟩ { g with stack := rest } (.invokestatic index) mk argsL.toArray X₁ hg hsize hdg hW (X₁.named hnamed) (hpre vm₁ X₁.warmed) with ⟨v, B, X', hpost, hsteps⟩ | ⟨q, B, X', hpost, hsteps⟩
  · exact Or.inl ⟨v, vm₁, B, X₁.warmed, X', hpost, fun target h => hstep₁ _ fun acts => by rw [doInvoke_state]; exact hsteps.trans h⟩
  · exact Or.inr ⟨q, vm₁, B, X₁.warmed, X', hpost, hstep₁ _ fun acts => by rw [doInvoke_state]; exact hsteps⟩
end Calls
theorem vx_cls {s : State} {T : State} {vm₁ : Vm} {E : String} {k : ClassId} (hW : s.WarmedH vm₁) (h : (T.setVm vm₁).vm.findClass E = some k) : s.vm.findClass E = some k := by
  have h1 : vm₁.findClass E = some k := h
  rw [hW.alike.findClass] at h1
  exact h1
/-- the method's frame g, with q thrown over it -/
def vx_W (p : Program) (l : Launch) (e : Env) (R : Room) (s : State) (m : MethodId) (args : Array Value) (below : List Frame) (meth : Method) (c : Code) (H : Heap) (locs : List Loc) (cells slots : Nat) (Q : State → Prop) (g : JFrame) (q : Addr) : Prop :=
  ∀ T : State, T.heap = H → Stand p l e R s m args below meth c T locs cells slots → ∃ t, Steps p.tables e below ((T.setTop g).pushFrame (.throwing q)) t ∧ Q t
def vx_Run (p : Program) (l : Launch) (e : Env) (R : Room) (s : State) (m : MethodId) (args : Array Value) (below : List Frame) (meth : Method) (c : Code) (H : Heap) (locs : List Loc) (cells slots mc ms : Nat) (g : JFrame) (rest : List Value) (Qa : State → Outcome → State → Prop) (XC : String → State → State → Prop) (free : Addr → Prop) : Prop :=
  ∀ T : State, T.heap = H → Stand p l e R s m args below meth c T locs cells slots →
    (∃ (v : Option Value) (st₀ t T' : State) (L : List Loc), st₀.heap = H ∧ Stand p l e R s m args below meth c T' (locs ++ L) (cells + mc) (slots + ms) ∧ (∀ q ∈ L, free q.base) ∧ T'.heap = t.heap ∧ T'.vm = t.vm ∧ Qa st₀ (.returned v) t ∧
      Goes p e below T g T' { g with pc := g.pc + 3, stack := v.toList ++ rest }) ∨
    (∃ (q : Addr) (st₀ t T' : State) (L : List Loc) (E : String) (ce : Cell), st₀.heap = H ∧ Stand p l e R s m args below meth c T' (locs ++ L) (cells + mc) (slots + ms) ∧ (∀ z ∈ L, free z.base) ∧ T'.heap = t.heap ∧ T'.vm = t.vm ∧ XC E st₀ t ∧ t.heap[q]? = some ce ∧ ce.vm = .none ∧ s.vm.findClass E = some ce.cls ∧
      Steps p.tables e below (T.setTop g) ((T'.setTop { g with stack := rest }).pushFrame (.throwing q)))
def vx_X {S : Type} (px : S → Prop) (B : String → S → State → Prop) (A : Nat → Prop) : String → State → State → Prop := fun E st t => ∃ u : S, px u ∧ B E u t ∧ va_F A st t
section Runs
variable {p : Program} {l : Launch} {e : Env} {R : Room} {s : State} {m : MethodId} {args : Array Value} {below : List Frame} {meth : Method} {c : Code} {H : Heap} {locs : List Loc} {cells slots : Nat}
variable {y : MethodName} {bytes cc : ByteArray} {maxL nL mc ms n index : Nat} {ret : Option FieldType} {ws : List Cond} {rm : Room} {Pc : Array Value → State → Prop} {Qc : Array Value → State → Outcome → State → Prop} {XC : String → State → State → Prop} {free : Addr → Prop} {Ts : List Cond} {own C : String} {b : Addr} {As rest : List Value} {g : JFrame}
theorem vx_callBack (cb : CallB R s args own index y bytes maxL ret ws rm mc ms n) (hM : vx_Met l y ws rm Pc Qc XC mc ms free) (hbl : FrameBlind Pc) : vx_Back l R p e below s args y 3 8 (PreOf R mc ms Pc) (PostOf Qc mc ms free) (vx_Post XC mc ms free) := by
  obtain ⟨hrc, hrs, hfr, hlo, hws, hcw, -, hini, -⟩ := cb
  exact vx_back (bytes := bytes) (maxL := maxL) (ret := ret) hM hbl hrc hrs hfr hlo hws hcw (fun a' U hW => word_at hW (Or.inl (by first | rfl | simp [Cond.onTables, Cond.keeps, Cond.steady])) hini)
theorem vx_runV (S : CallFix p m c cc nL s args Ts own) (hM : vx_Met l y ws rm Pc Qc XC mc ms free) (cw : CallW R s args own C index y bytes maxL ret ws rm mc ms n) (hp : PreV s H C b Pc As)
    (hg : g.method = m) (hn : As.length = n) (hsize : g.locals.size = nL) (hstack : g.stack = As.reverse ++ .ref b :: rest) (hW : 2 * g.monitorRoom + (rest.map fun v => v.category).sum ≤ 8) (hdg : decode cc g.pc = .ok (.invokevirtual index, 3)) (hf : cells + mc ≤ R.cells ∧ slots + ms ≤ R.slots) :
    vx_Run p l e R s m args below meth c H locs cells slots mc ms g rest (Qc (Value.ref b :: As).toArray) XC free := by
  have hK : vx_Back l R p e below s args y 3 8 (PreOf R mc ms Pc) (PostOf Qc mc ms free) (vx_Post XC mc ms free) := vx_callBack cw.1 hM hp.1
  obtain ⟨⟨-, -, -, -, -, -, hcode, -, hy, hlen, hl⟩, hin, hse⟩ := cw
  obtain ⟨hx, hb, hml, ho, -⟩ := S
  obtain ⟨-, ⟨cellB, hcB, hoB, hclB⟩, hPc⟩ := hp
  intro T hT X
  rcases vx_callV X hx (C := C) (bytes := bytes) (maxL := maxL) (ret := ret) ho hl hin hse hcode hy hK (by rw [hT]; exact hcB) hoB hclB hg (hsize.trans hml.symm) (argsL := As) (rest := rest) (fun sig h => hn.trans (hlen sig h)) hstack hW (by rw [hb]; exact hdg)
    (fun vm₁ hW₁ => ⟨hf.1, hf.2, hPc (T.setVm vm₁) hT hW₁⟩) with ⟨v, vm₁, ⟨U', l2, c2, s2⟩, hW₁, X', ⟨g', mk, t, L, e1, e2, hq, h1, hL, h2, h3⟩, st⟩ | ⟨q, vm₁, ⟨U', l2, c2, s2⟩, hW₁, X', ⟨g', mk, t, L, E, ce, e1, e2, hq, hce, hcv, hcl, h1, hL, h2, h3⟩, st⟩
  · dsimp only [Pt.U, Pt.locs, Pt.cells, Pt.slots] at X' e1 e2 h1 h2 h3 st
    subst h1; subst h2; subst h3
    exact Or.inl ⟨v, (T.setVm vm₁).calling g' mk (Value.ref b :: As).toArray, t, U', L, hT, X', hL, e1, e2, hq, st⟩
  · dsimp only [Pt.U, Pt.locs, Pt.cells, Pt.slots] at X' e1 e2 h1 h2 h3 st hcl
    subst h1; subst h2; subst h3
    exact Or.inr ⟨q, (T.setVm vm₁).calling g' mk (Value.ref b :: As).toArray, t, U', L, E, ce, hT, X', hL, e1, e2, hq, hce, hcv, vx_cls hW₁ hcl, st⟩
theorem vx_runS (S : CallFix p m c cc nL s args Ts own) (hM : vx_Met l y ws rm Pc Qc XC mc ms free) (cw : CallB R s args own index y bytes maxL ret ws rm mc ms n ∧ (Cond.static y).before args s = true) (hp : PreS s H Pc As)
    (hg : g.method = m) (hn : As.length = n) (hsize : g.locals.size = nL) (hstack : g.stack = As.reverse ++ rest) (hW : 2 * g.monitorRoom + (rest.map fun v => v.category).sum ≤ 8) (hdg : decode cc g.pc = .ok (.invokestatic index, 3)) (hf : cells + mc ≤ R.cells ∧ slots + ms ≤ R.slots) :
    vx_Run p l e R s m args below meth c H locs cells slots mc ms g rest (Qc As.toArray) XC free := by
  have hK : vx_Back l R p e below s args y 3 8 (PreOf R mc ms Pc) (PostOf Qc mc ms free) (vx_Post XC mc ms free) := vx_callBack cw.1 hM hp.1
  obtain ⟨⟨-, -, -, -, -, -, hcode, hini, hy, hlen, hl⟩, hstt⟩ := cw
  obtain ⟨hx, hb, hml, ho, -⟩ := S
  intro T hT X
  rcases vx_callS X hx (bytes := bytes) (maxL := maxL) (ret := ret) ho hl hstt hini hcode hy hK hg (hsize.trans hml.symm) (argsL := As) (rest := rest) (fun sig h => hn.trans (hlen sig h)) hstack hW (by rw [hb]; exact hdg)
    (fun vm₁ hW₁ => ⟨hf.1, hf.2, hp.2 (T.setVm vm₁) hT hW₁⟩) with ⟨v, vm₁, ⟨U', l2, c2, s2⟩, hW₁, X', ⟨g', mk, t, L, e1, e2, hq, h1, hL, h2, h3⟩, st⟩ | ⟨q, vm₁, ⟨U', l2, c2, s2⟩, hW₁, X', ⟨g', mk, t, L, E, ce, e1, e2, hq, hce, hcv, hcl, h1, hL, h2, h3⟩, st⟩
  · dsimp only [Pt.U, Pt.locs, Pt.cells, Pt.slots] at X' e1 e2 h1 h2 h3 st
    subst h1; subst h2; subst h3
    exact Or.inl ⟨v, (T.setVm vm₁).calling g' mk As.toArray, t, U', L, hT, X', hL, e1, e2, hq, st⟩
  · dsimp only [Pt.U, Pt.locs, Pt.cells, Pt.slots] at X' e1 e2 h1 h2 h3 st hcl
    subst h1; subst h2; subst h3
    exact Or.inr ⟨q, (T.setVm vm₁).calling g' mk As.toArray, t, U', L, E, ce, hT, X', hL, e1, e2, hq, hce, hcv, vx_cls hW₁ hcl, st⟩
end Runs
section Rows
variable {p : Program} {l : Launch} {e : Env} {R : Room} {s : State} {m : MethodId} {args : Array Value} {below : List Frame} {meth : Method} {c : Code} {H : Heap} {locs : List Loc} {cells slots : Nat} {Q : State → Prop}
variable {mc ms : Nat} {free : Addr → Prop} {A0 A1 : Nat → Prop} {H0 : Heap} {a : Array Value} {pc : Nat} {ls : Array Slot} {st0 rest : List Value}
theorem vx_keep {st₀ t T' : State} {L : List Loc} (h0 : st₀.heap = H) (e1 : T'.heap = t.heap) (hS : va_S A0 H0 H locs) (hA : ∀ q, q < H.size → A1 q → A0 q) (hf : ∀ q, free q → A0 q) (hL : ∀ q ∈ L, free q.base) (hF : va_F A1 st₀ t) :
    H.size ≤ T'.heap.size ∧ (∀ q : Nat, q < H.size → ¬ A1 q → T'.heap[q]? = H[q]?) ∧ va_S A0 H0 T'.heap (locs ++ L) := by
  obtain ⟨hz, hk⟩ := hF
  rw [h0] at hz hk
  exact ⟨by rw [e1]; exact hz, fun q h1 h2 => by rw [e1]; exact hk q h1 h2,
    ⟨Nat.le_trans hS.1 (by rw [e1]; exact hz), fun q h1 h2 => by rw [e1, hk q (Nat.lt_of_lt_of_le h1 hS.1) (fun z => h2 (hA q (Nat.lt_of_lt_of_le h1 hS.1) z))]; exact hS.2.1 q h1 h2, fun q hq => by
      rcases List.mem_append.mp hq with h | h
      · exact hS.2.2 q h
      · exact hf _ (hL q h)⟩⟩
theorem vx_calli {S SX : Type} {post : Int32 → S → Prop} {px : SX → Prop} {B : S → State → Prop} {BX : String → SX → State → Prop} {AX : Nat → Prop} (hr : vx_Run p l e R s m args below meth c H locs cells slots mc ms (F0 m pc ls st0) rest (va_Qi post B A1 a) (vx_X px BX AX) free) (hS : va_S A0 H0 H locs) (hA : ∀ q, q < H.size → A1 q → A0 q) (hf : ∀ q, free q → A0 q) (hAX : ∀ q, q < H.size → AX q → A0 q)
    (kx : ∀ (E : String) (ce : Cell) (q9 : Addr) (u : SX) (t : State) (H1 : Heap) (locs1 : List Loc), t.heap = H1 → s.vm.Alike t.vm → px u → BX E u t → H.size ≤ H1.size → (∀ q : Nat, q < H.size → ¬ AX q → H1[q]? = H[q]?) → va_S A0 H0 H1 locs1 → H1[q9]? = some ce → ce.vm = .none → s.vm.findClass E = some ce.cls → vx_W p l e R s m args below meth c H1 locs1 (cells + mc) (slots + ms) Q (F0 m pc ls rest) q9)
    (kk : ∀ (r : Int32) (u : S) (t : State) (H1 : Heap) (locs1 : List Loc), t.heap = H1 → s.vm.Alike t.vm → post r u → B u t → H.size ≤ H1.size → (∀ q : Nat, q < H.size → ¬ A1 q → H1[q]? = H[q]?) → va_S A0 H0 H1 locs1 → W p l e R s m args below meth c H1 locs1 (cells + mc) (slots + ms) Q (F0 m (pc + 3) ls (.int r :: rest))) : W p l e R s m args below meth c H locs cells slots Q (F0 m pc ls st0) := by
  intro T hT X
  rcases hr T hT X with ⟨v, st₀, t, T', L, h0, X', hL, e1, e2, ⟨⟨r, u, hv, hp, hb⟩, hF⟩, st⟩ | ⟨q, st₀, t, T', L, E, ce, h0, X', hL, e1, e2, ⟨u, hp, hb, hF⟩, hce, hcv, hcl, st⟩
  · cases hv
    obtain ⟨k1, k2, k3⟩ := vx_keep h0 e1 hS hA hf hL hF
    obtain ⟨t2, a1, b1⟩ := kk r u t T'.heap (locs ++ L) e1.symm (by rw [← e2]; exact X'.warmed.alike) hp hb k1 k2 k3 T' rfl X'
    exact ⟨t2, st t2 a1, b1⟩
  · obtain ⟨k1, k2, k3⟩ := vx_keep h0 e1 hS hAX hf hL hF
    obtain ⟨t2, a1, b1⟩ := kx E ce q u t T'.heap (locs ++ L) e1.symm (by rw [← e2]; exact X'.warmed.alike) hp hb k1 k2 k3 (by rw [e1]; exact hce) hcv hcl T' rfl X'
    exact ⟨t2, st.trans a1, b1⟩
theorem vx_calll {S SX : Type} {post : Int64 → S → Prop} {px : SX → Prop} {B : S → State → Prop} {BX : String → SX → State → Prop} {AX : Nat → Prop} (hr : vx_Run p l e R s m args below meth c H locs cells slots mc ms (F0 m pc ls st0) rest (va_Ql post B A1 a) (vx_X px BX AX) free) (hS : va_S A0 H0 H locs) (hA : ∀ q, q < H.size → A1 q → A0 q) (hf : ∀ q, free q → A0 q) (hAX : ∀ q, q < H.size → AX q → A0 q)
    (kx : ∀ (E : String) (ce : Cell) (q9 : Addr) (u : SX) (t : State) (H1 : Heap) (locs1 : List Loc), t.heap = H1 → s.vm.Alike t.vm → px u → BX E u t → H.size ≤ H1.size → (∀ q : Nat, q < H.size → ¬ AX q → H1[q]? = H[q]?) → va_S A0 H0 H1 locs1 → H1[q9]? = some ce → ce.vm = .none → s.vm.findClass E = some ce.cls → vx_W p l e R s m args below meth c H1 locs1 (cells + mc) (slots + ms) Q (F0 m pc ls rest) q9)
    (kk : ∀ (r : Int64) (u : S) (t : State) (H1 : Heap) (locs1 : List Loc), t.heap = H1 → s.vm.Alike t.vm → post r u → B u t → H.size ≤ H1.size → (∀ q : Nat, q < H.size → ¬ A1 q → H1[q]? = H[q]?) → va_S A0 H0 H1 locs1 → W p l e R s m args below meth c H1 locs1 (cells + mc) (slots + ms) Q (F0 m (pc + 3) ls (.long r :: rest))) : W p l e R s m args below meth c H locs cells slots Q (F0 m pc ls st0) := by
  intro T hT X
  rcases hr T hT X with ⟨v, st₀, t, T', L, h0, X', hL, e1, e2, ⟨⟨r, u, hv, hp, hb⟩, hF⟩, st⟩ | ⟨q, st₀, t, T', L, E, ce, h0, X', hL, e1, e2, ⟨u, hp, hb, hF⟩, hce, hcv, hcl, st⟩
  · cases hv
    obtain ⟨k1, k2, k3⟩ := vx_keep h0 e1 hS hA hf hL hF
    obtain ⟨t2, a1, b1⟩ := kk r u t T'.heap (locs ++ L) e1.symm (by rw [← e2]; exact X'.warmed.alike) hp hb k1 k2 k3 T' rfl X'
    exact ⟨t2, st t2 a1, b1⟩
  · obtain ⟨k1, k2, k3⟩ := vx_keep h0 e1 hS hAX hf hL hF
    obtain ⟨t2, a1, b1⟩ := kx E ce q u t T'.heap (locs ++ L) e1.symm (by rw [← e2]; exact X'.warmed.alike) hp hb k1 k2 k3 (by rw [e1]; exact hce) hcv hcl T' rfl X'
    exact ⟨t2, st.trans a1, b1⟩
theorem vx_callf {S SX : Type} {post : UInt32 → S → Prop} {px : SX → Prop} {B : S → State → Prop} {BX : String → SX → State → Prop} {AX : Nat → Prop} (hr : vx_Run p l e R s m args below meth c H locs cells slots mc ms (F0 m pc ls st0) rest (va_Qf post B A1 a) (vx_X px BX AX) free) (hS : va_S A0 H0 H locs) (hA : ∀ q, q < H.size → A1 q → A0 q) (hf : ∀ q, free q → A0 q) (hAX : ∀ q, q < H.size → AX q → A0 q)
    (kx : ∀ (E : String) (ce : Cell) (q9 : Addr) (u : SX) (t : State) (H1 : Heap) (locs1 : List Loc), t.heap = H1 → s.vm.Alike t.vm → px u → BX E u t → H.size ≤ H1.size → (∀ q : Nat, q < H.size → ¬ AX q → H1[q]? = H[q]?) → va_S A0 H0 H1 locs1 → H1[q9]? = some ce → ce.vm = .none → s.vm.findClass E = some ce.cls → vx_W p l e R s m args below meth c H1 locs1 (cells + mc) (slots + ms) Q (F0 m pc ls rest) q9)
    (kk : ∀ (r : UInt32) (u : S) (t : State) (H1 : Heap) (locs1 : List Loc), t.heap = H1 → s.vm.Alike t.vm → post r u → B u t → H.size ≤ H1.size → (∀ q : Nat, q < H.size → ¬ A1 q → H1[q]? = H[q]?) → va_S A0 H0 H1 locs1 → W p l e R s m args below meth c H1 locs1 (cells + mc) (slots + ms) Q (F0 m (pc + 3) ls (.float r :: rest))) : W p l e R s m args below meth c H locs cells slots Q (F0 m pc ls st0) := by
  intro T hT X
  rcases hr T hT X with ⟨v, st₀, t, T', L, h0, X', hL, e1, e2, ⟨⟨r, u, hv, hp, hb⟩, hF⟩, st⟩ | ⟨q, st₀, t, T', L, E, ce, h0, X', hL, e1, e2, ⟨u, hp, hb, hF⟩, hce, hcv, hcl, st⟩
  · cases hv
    obtain ⟨k1, k2, k3⟩ := vx_keep h0 e1 hS hA hf hL hF
    obtain ⟨t2, a1, b1⟩ := kk r u t T'.heap (locs ++ L) e1.symm (by rw [← e2]; exact X'.warmed.alike) hp hb k1 k2 k3 T' rfl X'
    exact ⟨t2, st t2 a1, b1⟩
  · obtain ⟨k1, k2, k3⟩ := vx_keep h0 e1 hS hAX hf hL hF
    obtain ⟨t2, a1, b1⟩ := kx E ce q u t T'.heap (locs ++ L) e1.symm (by rw [← e2]; exact X'.warmed.alike) hp hb k1 k2 k3 (by rw [e1]; exact hce) hcv hcl T' rfl X'
    exact ⟨t2, st.trans a1, b1⟩
theorem vx_calld {S SX : Type} {post : UInt64 → S → Prop} {px : SX → Prop} {B : S → State → Prop} {BX : String → SX → State → Prop} {AX : Nat → Prop} (hr : vx_Run p l e R s m args below meth c H locs cells slots mc ms (F0 m pc ls st0) rest (va_Qd post B A1 a) (vx_X px BX AX) free) (hS : va_S A0 H0 H locs) (hA : ∀ q, q < H.size → A1 q → A0 q) (hf : ∀ q, free q → A0 q) (hAX : ∀ q, q < H.size → AX q → A0 q)
    (kx : ∀ (E : String) (ce : Cell) (q9 : Addr) (u : SX) (t : State) (H1 : Heap) (locs1 : List Loc), t.heap = H1 → s.vm.Alike t.vm → px u → BX E u t → H.size ≤ H1.size → (∀ q : Nat, q < H.size → ¬ AX q → H1[q]? = H[q]?) → va_S A0 H0 H1 locs1 → H1[q9]? = some ce → ce.vm = .none → s.vm.findClass E = some ce.cls → vx_W p l e R s m args below meth c H1 locs1 (cells + mc) (slots + ms) Q (F0 m pc ls rest) q9)
    (kk : ∀ (r : UInt64) (u : S) (t : State) (H1 : Heap) (locs1 : List Loc), t.heap = H1 → s.vm.Alike t.vm → post r u → B u t → H.size ≤ H1.size → (∀ q : Nat, q < H.size → ¬ A1 q → H1[q]? = H[q]?) → va_S A0 H0 H1 locs1 → W p l e R s m args below meth c H1 locs1 (cells + mc) (slots + ms) Q (F0 m (pc + 3) ls (.double r :: rest))) : W p l e R s m args below meth c H locs cells slots Q (F0 m pc ls st0) := by
  intro T hT X
  rcases hr T hT X with ⟨v, st₀, t, T', L, h0, X', hL, e1, e2, ⟨⟨r, u, hv, hp, hb⟩, hF⟩, st⟩ | ⟨q, st₀, t, T', L, E, ce, h0, X', hL, e1, e2, ⟨u, hp, hb, hF⟩, hce, hcv, hcl, st⟩
  · cases hv
    obtain ⟨k1, k2, k3⟩ := vx_keep h0 e1 hS hA hf hL hF
    obtain ⟨t2, a1, b1⟩ := kk r u t T'.heap (locs ++ L) e1.symm (by rw [← e2]; exact X'.warmed.alike) hp hb k1 k2 k3 T' rfl X'
    exact ⟨t2, st t2 a1, b1⟩
  · obtain ⟨k1, k2, k3⟩ := vx_keep h0 e1 hS hAX hf hL hF
    obtain ⟨t2, a1, b1⟩ := kx E ce q u t T'.heap (locs ++ L) e1.symm (by rw [← e2]; exact X'.warmed.alike) hp hb k1 k2 k3 (by rw [e1]; exact hce) hcv hcl T' rfl X'
    exact ⟨t2, st.trans a1, b1⟩
theorem vx_callv {S SX : Type} {post : S → Prop} {px : SX → Prop} {B : S → State → Prop} {BX : String → SX → State → Prop} {AX : Nat → Prop} (hr : vx_Run p l e R s m args below meth c H locs cells slots mc ms (F0 m pc ls st0) rest (va_Qv post B A1 a) (vx_X px BX AX) free) (hS : va_S A0 H0 H locs) (hA : ∀ q, q < H.size → A1 q → A0 q) (hf : ∀ q, free q → A0 q) (hAX : ∀ q, q < H.size → AX q → A0 q)
    (kx : ∀ (E : String) (ce : Cell) (q9 : Addr) (u : SX) (t : State) (H1 : Heap) (locs1 : List Loc), t.heap = H1 → s.vm.Alike t.vm → px u → BX E u t → H.size ≤ H1.size → (∀ q : Nat, q < H.size → ¬ AX q → H1[q]? = H[q]?) → va_S A0 H0 H1 locs1 → H1[q9]? = some ce → ce.vm = .none → s.vm.findClass E = some ce.cls → vx_W p l e R s m args below meth c H1 locs1 (cells + mc) (slots + ms) Q (F0 m pc ls rest) q9)
    (kk : ∀ (u : S) (t : State) (H1 : Heap) (locs1 : List Loc), t.heap = H1 → s.vm.Alike t.vm → post u → B u t → H.size ≤ H1.size → (∀ q : Nat, q < H.size → ¬ A1 q → H1[q]? = H[q]?) → va_S A0 H0 H1 locs1 → W p l e R s m args below meth c H1 locs1 (cells + mc) (slots + ms) Q (F0 m (pc + 3) ls (rest))) : W p l e R s m args below meth c H locs cells slots Q (F0 m pc ls st0) := by
  intro T hT X
  rcases hr T hT X with ⟨v, st₀, t, T', L, h0, X', hL, e1, e2, ⟨⟨u, hv, hp, hb⟩, hF⟩, st⟩ | ⟨q, st₀, t, T', L, E, ce, h0, X', hL, e1, e2, ⟨u, hp, hb, hF⟩, hce, hcv, hcl, st⟩
  · cases hv
    obtain ⟨k1, k2, k3⟩ := vx_keep h0 e1 hS hA hf hL hF
    obtain ⟨t2, a1, b1⟩ := kk u t T'.heap (locs ++ L) e1.symm (by rw [← e2]; exact X'.warmed.alike) hp hb k1 k2 k3 T' rfl X'
    exact ⟨t2, st t2 a1, b1⟩
  · obtain ⟨k1, k2, k3⟩ := vx_keep h0 e1 hS hAX hf hL hF
    obtain ⟨t2, a1, b1⟩ := kx E ce q u t T'.heap (locs ++ L) e1.symm (by rw [← e2]; exact X'.warmed.alike) hp hb k1 k2 k3 (by rw [e1]; exact hce) hcv hcl T' rfl X'
    exact ⟨t2, st.trans a1, b1⟩
/-- caught by the row x of this method's table; the rows ahead don't take it -/
theorem vx_catch {own name : String} {E : String} {ce : Cell} {q : Addr} (hown : s.vm.findClass own = some m.cls) (pre : List ExceptionTableEntry) (x : ExceptionTableEntry) (suf : List ExceptionTableEntry) (hsplit : c.exceptionTable.toList = pre ++ x :: suf)
    (hpass : ∀ z ∈ pre, covers z pc = false ∨ (z.catchType ≠ 0 ∧ ∃ nm : String, (Cond.classLink own z.catchType nm).before args s = true ∧ va_Nc E nm s)) (hx : covers x pc = true) (h0 : x.catchType ≠ 0)
    (hlink : (Cond.classLink own x.catchType name).before args s = true) (hcast : (Cond.castable E name).before args s = true) (hcell : H[q]? = some ce) (hv : ce.vm = .none) (hcl : s.vm.findClass E = some ce.cls)
    (kk : W p l e R s m args below meth c H locs cells slots Q (F0 m x.handlerPc ls [.ref q])) : vx_W p l e R s m args below meth c H locs cells slots Q (F0 m pc ls rest) q := by
  intro T hT X
  have hpl : e.platform.magicAccessors = ({} : Platform).magicAccessors := by rw [X.admits.platform]
  obtain ⟨c3, c4, hc3, hc4, hasg⟩ := Cond.castable_spec hcast
  cases Option.some.inj (hc3.symm.trans hcl)
  obtain ⟨c5, hc5, hcl5⟩ := Cond.classLink_spec hown hlink e.platform hpl
  cases Option.some.inj (hc4.symm.trans hc5)
  obtain ⟨vm', X', st⟩ := X.thenCaughtThrough q (g := F0 m pc ls rest) rfl (Steps.refl _) (by rw [hT]; exact hcell) (by rw [hv]; rfl) (by obtain ⟨k9, h9, -⟩ := Vm.findClass_spec hcl; exact ⟨k9, h9⟩) pre x suf hsplit
    (fun z hz => by
      rcases hpass z hz with h | ⟨hz0, nm, hl1, hn1⟩
      · exact Or.inl h
      · obtain ⟨c6, hc6, hcl6⟩ := Cond.classLink_spec hown hl1 e.platform hpl
        obtain ⟨a8, b8, h1, h2, h3⟩ := hn1
        cases Option.some.inj (h1.symm.trans hcl)
        cases Option.some.inj (h2.symm.trans hc6)
        exact Or.inr ⟨hz0, _, hcl6, h3⟩) hx (Or.inr ⟨h0, c4, hcl5, hasg⟩)
  obtain ⟨t, a1, b1⟩ := kk (T.setVm vm') hT X'
  exact ⟨t, st.trans a1, b1⟩
end Rows
section Ends
variable {p : Program} {l : Launch} {e : Env} {R : Room} {s : State} {m : MethodId} {args : Array Value} {below : List Frame} {meth : Method} {c : Code} {H : Heap} {locs : List Loc} {cells slots : Nat} {Q : State → Prop}
variable {mc ms : Nat} {free : Addr → Prop} {A0 A1 : Nat → Prop} {H0 : Heap} {a : Array Value} {ls : Array Slot} {st0 rest : List Value}
variable {Qc : Array Value → State → Outcome → State → Prop} {XC : String → State → State → Prop}
/-- what a body that may throw owes at its end -/
def vx_MQ (below : List Frame) (Qc : Array Value → State → Outcome → State → Prop) (XC : String → State → State → Prop) (a : Array Value) (s : State) (mc ms : Nat) (free : Addr → Prop) : State → Prop := fun t =>
  ∃ o, t.status = .running ∧ Ended t below o ∧ vx_Q Qc XC mc ms free a s o t
theorem vx_ret {g : JFrame} {mc ms : Nat} (k : W p l e R s m args below meth c H locs cells slots (MQ below Qc args s mc ms free) g) : W p l e R s m args below meth c H locs cells slots (vx_MQ below Qc XC args s mc ms free) g := by
  intro T hT X
  obtain ⟨t, a1, o, b1, b2, b3, b4⟩ := k T hT X
  exact ⟨t, a1, o, b1, b2, Or.inl ⟨b3, b4⟩⟩
/-- not caught here: it goes on to the caller -/
theorem vx_widen {g : JFrame} {q : Addr} {k n : Nat} (h1 : cells ≤ k) (h2 : slots ≤ n) (kk : vx_W p l e R s m args below meth c H locs k n Q g q) : vx_W p l e R s m args below meth c H locs cells slots Q g q := fun T hT X => kk T hT (stand_widen X h1 h2)
theorem vx_out {pc : Nat} {E : String} {ce : Cell} {q : Addr} {mc ms : Nat} (hout : ∀ x ∈ c.exceptionTable.toList, covers x pc = false) (hlocks : meth.locks = false) (hcell : H[q]? = some ce) (hv : ce.vm = .none) (hcl : s.vm.findClass E = some ce.cls)
    (hx : ∀ t : State, t.heap = H → s.vm.Alike t.vm → XC E s t) (hf : ∀ z ∈ locs, free z.base) (hc : cells ≤ mc) (hs : slots ≤ ms) :
    vx_W p l e R s m args below meth c H locs cells slots (vx_MQ below Qc XC args s mc ms free) (F0 m pc ls rest) q := by
  intro T hT X
  obtain ⟨st1, hrun, hend, hW, hsm⟩ := X.leaveThrown q (g := F0 m pc ls rest) rfl rfl rfl hout hlocks
  have hcell9 : (T.setFrames (.throwing q :: below)).heap[q]? = some ce := by
    show T.heap[q]? = some ce
    rw [hT]; exact hcell
  exact ⟨_, st1, .threw q, hrun, hend, Or.inr ⟨q, rfl, E, ce, locs, hx _ hT hW.alike, hcell9, hv, hcl, hW, hsm.mono hc hs, hf⟩⟩
theorem vx_frame {U : State} {k n : Nat} (h : s.sameButNew ({ U with vm := s.vm } : State) locs k n) : s.heap.size ≤ U.heap.size ∧ ∀ q : Nat, q < s.heap.size → (∀ z ∈ locs, z.base ≠ q) → U.heap[q]? = s.heap[q]? := by
  obtain ⟨-, h2, -, -, -, h6⟩ := h
  refine ⟨h2, fun q hq hz => ?_⟩
  obtain ⟨c9, e1, e2, e3, e4⟩ := h6 q _ (Array.getElem?_eq_getElem hq)
  have hs : c9.slots = (s.heap[q]).slots := Array.ext_getElem? fun i => e4 i fun hm => hz _ hm rfl
  have h9 : c9 = s.heap[q] := by
    rw [hs] at e2
    exact e2
  have e5 : U.heap[q]? = some c9 := e1
  rw [e5, h9, Array.getElem?_eq_getElem hq]
/-- the words of a throw but the four that speak of the heap -/
def vx_no (w : Cond) : Bool := decide (w ≠ .isRef (.static Bundle.tN "UNASSIGNED_STACK" Bundle.steD)) && decide (w ≠ .isRef (.static Bundle.tN "SUPPRESSED_SENTINEL" Bundle.listD)) && decide (w ≠ .laysStatic Bundle.tN "UNASSIGNED_STACK" Bundle.steD) && decide (w ≠ .laysStatic Bundle.tN "SUPPRESSED_SENTINEL" Bundle.listD)
def vx_at0 (own : String) (ic : Nat) (X : String) (names : List String) : List Cond := (Bundle.ownAtoms0 own ic X names).filter vx_no
def vx_atS (own : String) (ic : Nat) (X : String) (names : List String) : List Cond := (Bundle.ownAtoms own ic X names).filter vx_no
/-- a word that the tables alone decide, or a good one -/
def vx_ot (w : Cond) : Bool := w.onTables || goodWord w
theorem vx_ot_at {args a' : Array Value} {s U : State} {w : Cond} (hW : s.WarmedH U.vm) (hvm : s.vm = U.vm) (hg : vx_ot w = true) (h : w.before args s = true) : w.before a' U = true := by
  simp only [vx_ot, Bool.or_eq_true] at hg
  rcases hg with hg | hg
  · exact va_tabs hg hvm h
  · exact word_at hW (good_of_word hg) h
/-- a list's words: the good ones out of the method's own list, the others by premises of their own -/
theorem vx_hat {args : Array Value} {s : State} {L B : List Cond} (h1 : ∀ w ∈ L.filter goodWord, w.before args s = true) (h2 : ∀ w ∈ L.filter (fun w => !goodWord w), w ∈ B) (h3 : ∀ w ∈ B, w.before args s = true) : ∀ w ∈ L, w.before args s = true := by
  intro w hw
  by_cases g : goodWord w = true
  · exact h1 w (List.mem_filter.mpr ⟨hw, g⟩)
  · refine h3 w (h2 w (List.mem_filter.mpr ⟨hw, ?_⟩))
    show (!goodWord w) = true
    cases hgw : goodWord w
    · rfl
    · exact absurd hgw g
theorem vx_c {args : Array Value} {s : State} {w : Cond} {B : List Cond} (h : w.before args s = true) (t : ∀ w ∈ B, w.before args s = true) : ∀ w' ∈ w :: B, w'.before args s = true := fun w' h' => (List.mem_cons.mp h').elim (fun e => by rw [e]; exact h) (t w')
theorem vx_n {args : Array Value} {s : State} : ∀ w ∈ ([] : List Cond), w.before args s = true := fun _ h => nomatch h
theorem vx_own {args : Array Value} {s : State} {L : List Cond} (h1 : ∀ w ∈ L.filter vx_no, w.before args s = true)
    (hU : (Cond.isRef (.static Bundle.tN "UNASSIGNED_STACK" Bundle.steD)).before args s = true) (hN : (Cond.isRef (.static Bundle.tN "SUPPRESSED_SENTINEL" Bundle.listD)).before args s = true)
    (lU : (Cond.laysStatic Bundle.tN "UNASSIGNED_STACK" Bundle.steD).before args s = true) (lN : (Cond.laysStatic Bundle.tN "SUPPRESSED_SENTINEL" Bundle.listD).before args s = true) : ∀ w ∈ L, w.before args s = true := by
  intro w hw
  by_cases e1 : w = .isRef (.static Bundle.tN "UNASSIGNED_STACK" Bundle.steD)
  · rw [e1]; exact hU
  · by_cases e2 : w = .isRef (.static Bundle.tN "SUPPRESSED_SENTINEL" Bundle.listD)
    · rw [e2]; exact hN
    · by_cases e3 : w = .laysStatic Bundle.tN "UNASSIGNED_STACK" Bundle.steD
      · rw [e3]; exact lU
      · by_cases e4 : w = .laysStatic Bundle.tN "SUPPRESSED_SENTINEL" Bundle.listD
        · rw [e4]; exact lN
        · exact h1 w (List.mem_filter.mpr ⟨hw, by unfold vx_no; rw [decide_eq_true e1, decide_eq_true e2, decide_eq_true e3, decide_eq_true e4]; rfl⟩)
/-- where a static field lies, its class's statics cell in H -/
def vx_L (C n d : String) (A : Nat → Prop) (U : State) (H : Heap) : Prop := ∃ (c : ClassId) (k : Class) (i : Nat) (f : Field) (a : Nat) (cell : Cell), U.vm.findClass C = some c ∧ U.fieldFound? C n d = some (c, k, i, f) ∧ f.isStatic = true ∧ k.statics = some a ∧ H[a]? = some cell ∧ cell.vm.isStatics = true ∧ cell.cls = c ∧ f.slot < cell.slots.size ∧ k.staticTypes[f.slot]? = some f.type ∧ ¬ A a
theorem vx_L.moved {C n d : String} {A : Nat → Prop} {u U : State} {H : Heap} (hvm : u.vm.Alike U.vm) (h : vx_L C n d A u H) : vx_L C n d A U H := by
  obtain ⟨c, k, i, f, a, cell, h1, h2, h3, h4, h5, h6, h7, h8, h9, h10⟩ := h
  obtain ⟨k', hi', he⟩ := State.fieldFound?_setVm hvm h2
  exact ⟨c, k', i, f, a, cell, by rw [hvm.findClass]; exact h1, hi', h3, by rw [he]; exact h4, h5, h6, h7, h8, by rw [he]; exact h9, h10⟩
theorem vx_L.kept {C n d : String} {A : Nat → Prop} {U : State} {H H1 : Heap} (h : vx_L C n d A U H) (hq : ∀ a : Nat, a < H.size → ¬ A a → H1[a]? = H[a]?) : vx_L C n d A U H1 := by
  obtain ⟨c, k, i, f, a, cell, h1, h2, h3, h4, h5, h6, h7, h8, h9, h10⟩ := h
  exact ⟨c, k, i, f, a, cell, h1, h2, h3, h4, by rw [hq a (Array.getElem?_eq_some_iff.mp h5).1 h10]; exact h5, h6, h7, h8, h9, h10⟩
theorem vx_L.narrow {C n d : String} {A B : Nat → Prop} {U : State} {H : Heap} (h : vx_L C n d A U H) (hAB : ∀ q, B q → A q) : vx_L C n d B U H := by
  obtain ⟨c, k, i, f, a, cell, h1, h2, h3, h4, h5, h6, h7, h8, h9, h10⟩ := h
  exact ⟨c, k, i, f, a, cell, h1, h2, h3, h4, h5, h6, h7, h8, h9, fun z => h10 (hAB _ z)⟩
theorem vx_L.word {C n d : String} {A : Nat → Prop} {s : State} {args : Array Value} (h : vx_L C n d A s s.heap) : (Cond.laysStatic C n d).before args s = true := by
  obtain ⟨c, k, i, f, a, cell, h1, h2, h3, h4, h5, h6, h7, h8, h9, -⟩ := h
  show (Cond.laysStatic C n d).holds args s none s [] = true
  exact Cond.laysStatic_of h1 h2 h3 h4 h5 h6 h7 h8 h9
/-- .. and what it holds: null or some reference -/
def vx_Zq (C n d : String) (A : Nat → Prop) (U : State) (H : Heap) : Prop := va_Zq C n d A U H ∧ vx_L C n d A U H
theorem vx_Zq.moved {C n d : String} {A : Nat → Prop} {u U : State} {H : Heap} (hvm : u.vm.Alike U.vm) (h : vx_Zq C n d A u H) : vx_Zq C n d A U H := ⟨va_Zq.moved hvm h.1, vx_L.moved hvm h.2⟩
theorem vx_Zq.kept {C n d : String} {A : Nat → Prop} {U : State} {H H1 : Heap} (h : vx_Zq C n d A U H) (hq : ∀ a : Nat, a < H.size → ¬ A a → H1[a]? = H[a]?) : vx_Zq C n d A U H1 := ⟨va_Zq.kept h.1 hq, vx_L.kept h.2 hq⟩
theorem vx_Zq.narrow {C n d : String} {A B : Nat → Prop} {U : State} {H : Heap} (h : vx_Zq C n d A U H) (hAB : ∀ q, B q → A q) : vx_Zq C n d B U H := ⟨va_Zq.narrow h.1 hAB, vx_L.narrow h.2 hAB⟩
theorem vx_Zqof {args : Array Value} {s : State} {C n d : String} {A : Nat → Prop} (hl : (Cond.laysStatic C n d).before args s = true) (hini : (Cond.initialized C).before args s = true) (h : (Cond.isRef (.static C n d)).before args s = true) (hA : ∀ a : Nat, a < s.heap.size → ¬ A a) : vx_Zq C n d A s s.heap := by
  refine ⟨va_Zqof hl hini h hA, ?_⟩
  obtain ⟨c, k, i, f, a, cell, h1, h2, h3, h4, h5, h6, h7, h8, h9⟩ := Cond.laysStatic_spec hl
  exact ⟨c, k, i, f, a, cell, h1, h2, h3, h4, h5, h6, h7, h8, h9, hA a (Array.getElem?_eq_some_iff.mp h5).1⟩
theorem vx_isRef {C n d : String} {v : Value} {A : Nat → Prop} {s : State} {args : Array Value} (h : va_Z C n d v A s s.heap) (hv : v.isRef = true) : (Cond.isRef (.static C n d)).before args s = true := by
  obtain ⟨cf, kf, fi, f, a, cell, h1, h2, h3, h4, h5, h6, h7, -⟩ := h
  have he : (Term.static C n d).eval args s none [] s = some v := by
    simp [Term.eval, State.fieldNamed?, h1, h2, h4, h5, h6, h7]
  simp only [Cond.before, Cond.holds, Cond.value, he]
  cases v <;> simp_all [Value.isRef]
theorem vx_isRefq {C n d : String} {A : Nat → Prop} {s : State} {args : Array Value} (h : va_Zq C n d A s s.heap) : (Cond.isRef (.static C n d)).before args s = true := by
  rcases h with h | ⟨t, h⟩
  · exact vx_isRef h rfl
  · exact vx_isRef h rfl
/-- the same frame, seen from here: as if the method were called anew in this heap -/
theorem vx_rebase {T : State} (X : Stand p l e R s m args below meth c T locs cells slots) {R' : Room} (hf : R'.frames ≤ R.frames) (hl : R'.locals ≤ R.locals) (hc : cells + R'.cells ≤ R.cells) (hs : slots + R'.slots ≤ R.slots) :
    Stand p l e R' ((T.setVm s.vm).setFrames (.invoking m args :: below)) m args below meth c T [] 0 0 := by
  have htop : (T.setVm s.vm).topJava?.isSome := X.here.top
  have hF : ((T.setVm s.vm).setFrames (.invoking m args :: below)).frames = .invoking m args :: below := State.frames_setFrames _ (State.cur_lt_of_top htop)
  obtain ⟨g₀, hg0⟩ := Option.isSome_iff_exists.mp htop
  obtain ⟨r, hr⟩ := State.topJava?_eq_some.mp hg0
  have hl9 : e.platform.stackLimits (T.setVm s.vm).me = e.platform.stackLimits s.me := X.limits
  have hb9 : (T.setVm s.vm).me.stackBytes = s.me.stackBytes := X.bytes
  refine ⟨X.admits, X.cas, X.clock, hF, ?_, X.hears, X.method, X.code, X.here, X.tail, X.warmed, ?_, ?_, ?_⟩
  · have h := X.room
    have hU : ((T.setVm s.vm).setFrames (.invoking m args :: below)).localsInUse = s.localsInUse := by
      rw [State.localsInUse_invoking hF (meth := meth) (c := c) X.method X.code, State.localsInUse_invoking X.frames X.method X.code]
    simp only [State.hasRoom, Bool.and_eq_true, decide_eq_true_eq] at h ⊢
    obtain ⟨⟨⟨⟨h1, h2, h3, h4, h5, h6⟩, h7⟩, h8⟩, h9⟩ := h
    rw [X.frames, List.length_cons] at h2 h3
    have q1 := X.heapSize
    have q2 := X.used
    simp only [hF, hU, List.length_cons, State.stackLimits_setFrames, State.stackBytes_setFrames, hl9, hb9]
    refine ⟨⟨⟨⟨by omega, by omega, by omega, by omega, by omega, h6⟩, ?_⟩, ?_⟩, X.book⟩
    · show T.heap.size + R'.cells ≤ e.platform.maxCells
      omega
    · show T.slotsUsed + R'.slots ≤ e.platform.maxSlots
      omega
  · rw [State.stackLimits_setFrames]; rfl
  · rw [State.stackBytes_setFrames]; rfl
  · refine ⟨?_, Nat.le_refl _, Nat.le_refl _, ?_, ?_, fun a c9 h9 => ⟨c9, h9, rfl, rfl, fun _ _ => rfl⟩⟩
    · obtain ⟨t, ht, -⟩ := State.frames_cons hr
      show T.setVm s.vm = { ((T.setVm s.vm).setFrames (.invoking m args :: below)).setFrames (T.setVm s.vm).frames with heap := T.heap, slotsUsed := T.slotsUsed }
      rw [State.setFrames_setFrames, State.setFrames_self ht]
      rfl
    · show T.slotsUsed = T.slotsUsed + ((T.heap.toList.drop T.heap.size).map (·.slots.size)).sum
      rw [List.drop_eq_nil_of_le (Nat.le_of_eq Array.length_toList)]
      rfl
    · show ((T.heap.toList.drop T.heap.size).map (·.slots.size)).sum ≤ 0
      rw [List.drop_eq_nil_of_le (Nat.le_of_eq Array.length_toList)]
      exact Nat.le_refl _
/-- 'throw new E()': new; dup; invokespecial; athrow -/
theorem vx_throw0 {cc : ByteArray} {pc : Nat} (hexec : p.tables.exec = Jvm.exec) (hb : c.code = cc) (hl : l.stackTraces = false) {own cls : String} {names : List String} {ik ic mc ms : Nat} {A : Nat → Prop}
    (hown : s.vm.findClass own = some m.cls) (hcls : Bundle.fit cls = true) (hnames : ∀ n ∈ names, Bundle.fit n = true)
    (hk : (Cond.classLink own ik cls).before args s = true) (hini : (Cond.initialized cls).before args s = true) (hat : ∀ w ∈ vx_at0 own ic cls names, w.before args s = true)
    (hgood : ∀ w ∈ Cond.classLink own ik cls :: Cond.initialized cls :: vx_at0 own ic cls names, vx_ot w = true)
    (hU : vx_Zq Bundle.tN "UNASSIGNED_STACK" Bundle.steD A s s.heap) (hN : vx_Zq Bundle.tN "SUPPRESSED_SENTINEL" Bundle.listD A s s.heap) (hS : va_S A s.heap H locs) (hsize : ls.size = c.maxLocals)
    (d0 : decode cc pc = .ok (.new ik, 3)) (d3 : decode cc (pc + 3) = .ok (.dup, 1)) (d4 : decode cc (pc + 4) = .ok (.invokespecial ic, 3)) (d7 : decode cc (pc + 7) = .ok (.athrow, 1))
    (hout : ∀ x ∈ c.exceptionTable.toList, covers x (pc + 7) = false)
    (hRframes : names.length + 3 < R.frames) (hRlocals : (rest.map fun v => v.category).sum + (13 * (names.length + 1) + 42) ≤ R.locals) (hRcells : cells + 1 ≤ R.cells) (hRslots : slots + 6 ≤ R.slots) (hlocks : meth.locks = false)
    (hx : ∀ t : State, s.vm.Alike t.vm → H.size ≤ t.heap.size → (∀ q : Nat, q < H.size → t.heap[q]? = H[q]?) → XC cls s t)
    (hf : ∀ z ∈ locs, free z.base) (hc : cells + 1 ≤ mc) (hs : slots + 6 ≤ ms) :
    W p l e R s m args below meth c H locs cells slots (vx_MQ below Qc XC args s mc ms free) (F0 m pc ls rest) := by
  intro T hT X
  have htr : e.platform.stackTraces = false := (show e.platform.stackTraces = l.stackTraces by rw [X.admits.platform]).trans hl
  have Y := vx_rebase X (R' := { frames := R.frames, locals := R.locals, cells := 1, slots := 6 }) (Nat.le_refl _) (Nat.le_refl _) hRcells hRslots
  obtain ⟨s', hA⟩ : ∃ z, z = (T.setVm s.vm).setFrames (.invoking m args :: below) := ⟨_, rfl⟩
  rw [← hA] at Y
  have hvm : s'.vm = s.vm := by rw [hA]; rfl
  have hhp : s'.heap = H := by rw [hA]; exact hT
  have hW0 : s.WarmedH s'.vm := by rw [hvm]; exact State.WarmedH.refl s
  have hat' : ∀ w ∈ vx_at0 own ic cls names, w.before args s' = true := fun w hw => vx_ot_at hW0 hvm.symm (hgood w (List.mem_cons_of_mem _ (List.mem_cons_of_mem _ hw))) (hat w hw)
  have hk' : (Cond.classLink own ik cls).before args s' = true := vx_ot_at hW0 hvm.symm (hgood _ List.mem_cons_self) hk
  have hini' : (Cond.initialized cls).before args s' = true := vx_ot_at hW0 hvm.symm (hgood _ (List.mem_cons_of_mem _ List.mem_cons_self)) hini
  have hU' : vx_Zq Bundle.tN "UNASSIGNED_STACK" Bundle.steD A s' s'.heap := by rw [hhp]; exact vx_Zq.moved hW0.alike (hU.kept hS.2.1)
  have hN' : vx_Zq Bundle.tN "SUPPRESSED_SENTINEL" Bundle.listD A s' s'.heap := by rw [hhp]; exact vx_Zq.moved hW0.alike (hN.kept hS.2.1)
  have h : ∀ w ∈ Bundle.ownAtoms0 own ic cls names, w.before args s' = true := vx_own hat' (vx_isRefq hU'.1) (vx_isRefq hN'.1) hU'.2.word hN'.2.word
  have hown' : s'.vm.findClass own = some m.cls := by rw [hvm]; exact hown
  have hins : (Cond.instantiable cls 6).before args s' = true := h _ (by simp [Bundle.ownAtoms0])
  obtain ⟨vm₁, cX, kX, hfX, hkX, -, -, X₁, st1⟩ := Y.newCold hexec (own := own) (C := cls) (index := ik) (n := 6) hown' hk' hins hini'
    (g := F0 m pc ls rest) rfl (by rw [hb]; exact d0) (Nat.le_refl _) (Nat.le_refl _)
  generalize hT1 : (T.setVm vm₁).pushCell { cls := cX, slots := kX.instanceTypes.map defaultValue, vm := .none } = T1 at X₁ st1
  have hcat : (Value.ref T.heap.size).category = 1 := rfl
  have hcellA : T1.heap[T.heap.size]? = some (freshCell cX kX) := by rw [← hT1]; exact State.heap_pushCell_size _ _
  have d3' : decode c.code (pc + 3) = .ok (.dup, 1) := by rw [hb]; exact d3
  obtain ⟨U, hsteps, hrun, hend, hW, hsame, ce, hce, hO⟩ := X₁.ctorThrow0 hexec htr (own := own) (cls := cls) (names := names) (ic := ic) hown' hcls hnames h (fun x hx => nomatch hx) hfX hkX hcellA (by rw [hhp, hT]; exact Nat.le_refl _)
    (g := { method := m, pc := pc + 4, locals := ls, stack := .ref T.heap.size :: .ref T.heap.size :: rest, locked := none }) rfl hsize rfl rfl (rest := rest) rfl
    (by rw [hb]; exact d4) (by rw [hb]; exact d7) hout hRframes (by simp only [List.map_cons, List.sum_cons, hcat]; omega) hlocks
  obtain ⟨f1, f2⟩ := vx_frame hsame
  rw [hhp] at f1 f2
  have hWs : s.WarmedH U.vm := State.WarmedH.trans hW0 hW
  have hcl : s.vm.findClass cls = some ce.cls := by
    have h9 := hO.cls
    rw [hvm] at h9
    exact h9
  have hall : s.sameButNew ({ U with vm := s.vm } : State) locs mc ms := by
    subst hA
    obtain ⟨e1, e2⟩ := hsame
    rw [State.setFrames_setFrames] at e1
    have h2 : (T.setVm s.vm).sameButNew ({ U with vm := s.vm } : State) [] (0 + 1) (0 + 6) := ⟨e1, e2⟩
    have h3 := X.same.trans h2
    rw [List.append_nil] at h3
    exact h3.mono hc hs
  refine ⟨U, ?_, .threw T.heap.size, hrun, hend, Or.inr ⟨T.heap.size, rfl, cls, ce, locs, hx U hWs.alike f1 (fun q hq => f2 q hq (fun z hz => nomatch hz)), hce, hO.vm, hcl, hWs, hall, hf⟩⟩
  refine st1 _ ?_
  show Steps p.tables e below (T1.setTop { method := m, pc := pc + 3, locals := ls, stack := .ref T.heap.size :: rest, locked := none }) _
  jvm_step X₁.here [X₁.here.top, hexec, d3', Value.category]
  exact hsteps
/-- 'throw new E("text")': new; dup; ldc; invokespecial; athrow -/
theorem vx_throwS {cc : ByteArray} {pc : Nat} (hexec : p.tables.exec = Jvm.exec) (hb : c.code = cc) (hl : l.stackTraces = false) {own cls text : String} {names : List String} {ik is ic mc ms sa : Nat} {A : Nat → Prop}
    (hown : s.vm.findClass own = some m.cls) (hcls : Bundle.fit cls = true) (hnames : ∀ n ∈ names, Bundle.fit n = true)
    (hk : (Cond.classLink own ik cls).before args s = true) (hini : (Cond.initialized cls).before args s = true) (hstr : vk_R own is text sa s) (hat : ∀ w ∈ vx_atS own ic cls names, w.before args s = true)
    (hgood : ∀ w ∈ Cond.classLink own ik cls :: Cond.initialized cls :: vx_atS own ic cls names, vx_ot w = true)
    (hU : vx_Zq Bundle.tN "UNASSIGNED_STACK" Bundle.steD A s s.heap) (hN : vx_Zq Bundle.tN "SUPPRESSED_SENTINEL" Bundle.listD A s s.heap) (hS : va_S A s.heap H locs) (hsize : ls.size = c.maxLocals)
    (d0 : decode cc pc = .ok (.new ik, 3)) (d3 : decode cc (pc + 3) = .ok (.dup, 1)) (d4 : decode cc (pc + 4) = .ok (.ldc is, 2)) (d6 : decode cc (pc + 6) = .ok (.invokespecial ic, 3)) (d9 : decode cc (pc + 9) = .ok (.athrow, 1))
    (hout : ∀ x ∈ c.exceptionTable.toList, covers x (pc + 9) = false)
    (hRframes : names.length + 3 < R.frames) (hRlocals : (rest.map fun v => v.category).sum + (13 * (names.length + 1) + 43) ≤ R.locals) (hRcells : cells + 1 ≤ R.cells) (hRslots : slots + 6 ≤ R.slots) (hlocks : meth.locks = false)
    (hx : ∀ t : State, s.vm.Alike t.vm → H.size ≤ t.heap.size → (∀ q : Nat, q < H.size → t.heap[q]? = H[q]?) → XC cls s t)
    (hf : ∀ z ∈ locs, free z.base) (hc : cells + 1 ≤ mc) (hs : slots + 6 ≤ ms) :
    W p l e R s m args below meth c H locs cells slots (vx_MQ below Qc XC args s mc ms free) (F0 m pc ls rest) := by
  intro T hT X
  have htr : e.platform.stackTraces = false := (show e.platform.stackTraces = l.stackTraces by rw [X.admits.platform]).trans hl
  have Y := vx_rebase X (R' := { frames := R.frames, locals := R.locals, cells := 1, slots := 6 }) (Nat.le_refl _) (Nat.le_refl _) hRcells hRslots
  obtain ⟨s', hA⟩ : ∃ z, z = (T.setVm s.vm).setFrames (.invoking m args :: below) := ⟨_, rfl⟩
  rw [← hA] at Y
  have hvm : s'.vm = s.vm := by rw [hA]; rfl
  have hhp : s'.heap = H := by rw [hA]; exact hT
  have hW0 : s.WarmedH s'.vm := by rw [hvm]; exact State.WarmedH.refl s
  have hat' : ∀ w ∈ vx_atS own ic cls names, w.before args s' = true := fun w hw => vx_ot_at hW0 hvm.symm (hgood w (List.mem_cons_of_mem _ (List.mem_cons_of_mem _ hw))) (hat w hw)
  have hk' : (Cond.classLink own ik cls).before args s' = true := vx_ot_at hW0 hvm.symm (hgood _ List.mem_cons_self) hk
  have hini' : (Cond.initialized cls).before args s' = true := vx_ot_at hW0 hvm.symm (hgood _ (List.mem_cons_of_mem _ List.mem_cons_self)) hini
  have hU' : vx_Zq Bundle.tN "UNASSIGNED_STACK" Bundle.steD A s' s'.heap := by rw [hhp]; exact vx_Zq.moved hW0.alike (hU.kept hS.2.1)
  have hN' : vx_Zq Bundle.tN "SUPPRESSED_SENTINEL" Bundle.listD A s' s'.heap := by rw [hhp]; exact vx_Zq.moved hW0.alike (hN.kept hS.2.1)
  have h : ∀ w ∈ Bundle.ownAtoms own ic cls names, w.before args s' = true := vx_own hat' (vx_isRefq hU'.1) (vx_isRefq hN'.1) hU'.2.word hN'.2.word
  have hown' : s'.vm.findClass own = some m.cls := by rw [hvm]; exact hown
  have hins : (Cond.instantiable cls 6).before args s' = true := h _ (by simp [Bundle.ownAtoms])
  obtain ⟨vm₁, cX, kX, hfX, hkX, -, -, X₁, st1⟩ := Y.newCold hexec (own := own) (C := cls) (index := ik) (n := 6) hown' hk' hins hini'
    (g := F0 m pc ls rest) rfl (by rw [hb]; exact d0) (Nat.le_refl _) (Nat.le_refl _)
  generalize hT1 : (T.setVm vm₁).pushCell { cls := cX, slots := kX.instanceTypes.map defaultValue, vm := .none } = T1 at X₁ st1
  have hcat : (Value.ref T.heap.size).category = 1 := rfl
  have hcellA : T1.heap[T.heap.size]? = some (freshCell cX kX) := by rw [← hT1]; exact State.heap_pushCell_size _ _
  have d3' : decode c.code (pc + 3) = .ok (.dup, 1) := by rw [hb]; exact d3
  have d4' : decode c.code (pc + 4) = .ok (.ldc is, 2) := by rw [hb]; exact d4
  have hstr' : vk_R own is text sa s' := vk_R.warm hW0 hstr
  obtain ⟨U, hsteps, hrun, hend, hW, hsame, ce, hce, hO⟩ := X₁.ctorThrowS hexec htr (own := own) (cls := cls) (names := names) (ic := ic) hown' hcls hnames h (fun x hx => nomatch hx) hfX hkX hcellA (by rw [hhp, hT]; exact Nat.le_refl _) (msg := .ref sa) rfl
    (g := { method := m, pc := pc + 6, locals := ls, stack := .ref sa :: .ref T.heap.size :: .ref T.heap.size :: rest, locked := none }) rfl hsize rfl rfl (rest := rest) rfl
    (by rw [hb]; exact d6) (by rw [hb]; exact d9) hout hRframes (by simp only [List.map_cons, List.sum_cons, hcat]; omega) hlocks
  obtain ⟨f1, f2⟩ := vx_frame hsame
  rw [hhp] at f1 f2
  have hWs : s.WarmedH U.vm := State.WarmedH.trans hW0 hW
  have hcl : s.vm.findClass cls = some ce.cls := by
    have h9 := hO.cls
    rw [hvm] at h9
    exact h9
  have hall : s.sameButNew ({ U with vm := s.vm } : State) locs mc ms := by
    subst hA
    obtain ⟨e1, e2⟩ := hsame
    rw [State.setFrames_setFrames] at e1
    have h2 : (T.setVm s.vm).sameButNew ({ U with vm := s.vm } : State) [] (0 + 1) (0 + 6) := ⟨e1, e2⟩
    have h3 := X.same.trans h2
    rw [List.append_nil] at h3
    exact h3.mono hc hs
  refine ⟨U, ?_, .threw T.heap.size, hrun, hend, Or.inr ⟨T.heap.size, rfl, cls, ce, locs, hx U hWs.alike f1 (fun q hq => f2 q hq (fun z hz => nomatch hz)), hce, hO.vm, hcl, hWs, hall, hf⟩⟩
  refine st1 _ ?_
  show Steps p.tables e below (T1.setTop { method := m, pc := pc + 3, locals := ls, stack := .ref T.heap.size :: rest, locked := none }) _
  jvm_step X₁.here [X₁.here.top, hexec, d3', Value.category]
  exact X₁.ldcString hexec (own := own) (text := text) (index := is) (a := sa) hown' hstr'.1 hstr'.2
    (g := { method := m, pc := pc + 4, locals := ls, stack := .ref T.heap.size :: .ref T.heap.size :: rest, locked := none }) rfl d4' _ hsteps
/-- 'throw new E("text")', the text by a wide index -/
theorem vx_throwSW {cc : ByteArray} {pc : Nat} (hexec : p.tables.exec = Jvm.exec) (hb : c.code = cc) (hl : l.stackTraces = false) {own cls text : String} {names : List String} {ik is ic mc ms sa : Nat} {A : Nat → Prop}
    (hown : s.vm.findClass own = some m.cls) (hcls : Bundle.fit cls = true) (hnames : ∀ n ∈ names, Bundle.fit n = true)
    (hk : (Cond.classLink own ik cls).before args s = true) (hini : (Cond.initialized cls).before args s = true) (hstr : vk_R own is text sa s) (hat : ∀ w ∈ vx_atS own ic cls names, w.before args s = true)
    (hgood : ∀ w ∈ Cond.classLink own ik cls :: Cond.initialized cls :: vx_atS own ic cls names, vx_ot w = true)
    (hU : vx_Zq Bundle.tN "UNASSIGNED_STACK" Bundle.steD A s s.heap) (hN : vx_Zq Bundle.tN "SUPPRESSED_SENTINEL" Bundle.listD A s s.heap) (hS : va_S A s.heap H locs) (hsize : ls.size = c.maxLocals)
    (d0 : decode cc pc = .ok (.new ik, 3)) (d3 : decode cc (pc + 3) = .ok (.dup, 1)) (d4 : decode cc (pc + 4) = .ok (.ldc_w is, 3)) (d7 : decode cc (pc + 7) = .ok (.invokespecial ic, 3)) (d10 : decode cc (pc + 10) = .ok (.athrow, 1))
    (hout : ∀ x ∈ c.exceptionTable.toList, covers x (pc + 10) = false)
    (hRframes : names.length + 3 < R.frames) (hRlocals : (rest.map fun v => v.category).sum + (13 * (names.length + 1) + 43) ≤ R.locals) (hRcells : cells + 1 ≤ R.cells) (hRslots : slots + 6 ≤ R.slots) (hlocks : meth.locks = false)
    (hx : ∀ t : State, s.vm.Alike t.vm → H.size ≤ t.heap.size → (∀ q : Nat, q < H.size → t.heap[q]? = H[q]?) → XC cls s t)
    (hf : ∀ z ∈ locs, free z.base) (hc : cells + 1 ≤ mc) (hs : slots + 6 ≤ ms) :
    W p l e R s m args below meth c H locs cells slots (vx_MQ below Qc XC args s mc ms free) (F0 m pc ls rest) := by
  intro T hT X
  have htr : e.platform.stackTraces = false := (show e.platform.stackTraces = l.stackTraces by rw [X.admits.platform]).trans hl
  have Y := vx_rebase X (R' := { frames := R.frames, locals := R.locals, cells := 1, slots := 6 }) (Nat.le_refl _) (Nat.le_refl _) hRcells hRslots
  obtain ⟨s', hA⟩ : ∃ z, z = (T.setVm s.vm).setFrames (.invoking m args :: below) := ⟨_, rfl⟩
  rw [← hA] at Y
  have hvm : s'.vm = s.vm := by rw [hA]; rfl
  have hhp : s'.heap = H := by rw [hA]; exact hT
  have hW0 : s.WarmedH s'.vm := by rw [hvm]; exact State.WarmedH.refl s
  have hat' : ∀ w ∈ vx_atS own ic cls names, w.before args s' = true := fun w hw => vx_ot_at hW0 hvm.symm (hgood w (List.mem_cons_of_mem _ (List.mem_cons_of_mem _ hw))) (hat w hw)
  have hk' : (Cond.classLink own ik cls).before args s' = true := vx_ot_at hW0 hvm.symm (hgood _ List.mem_cons_self) hk
  have hini' : (Cond.initialized cls).before args s' = true := vx_ot_at hW0 hvm.symm (hgood _ (List.mem_cons_of_mem _ List.mem_cons_self)) hini
  have hU' : vx_Zq Bundle.tN "UNASSIGNED_STACK" Bundle.steD A s' s'.heap := by rw [hhp]; exact vx_Zq.moved hW0.alike (hU.kept hS.2.1)
  have hN' : vx_Zq Bundle.tN "SUPPRESSED_SENTINEL" Bundle.listD A s' s'.heap := by rw [hhp]; exact vx_Zq.moved hW0.alike (hN.kept hS.2.1)
  have h : ∀ w ∈ Bundle.ownAtoms own ic cls names, w.before args s' = true := vx_own hat' (vx_isRefq hU'.1) (vx_isRefq hN'.1) hU'.2.word hN'.2.word
  have hown' : s'.vm.findClass own = some m.cls := by rw [hvm]; exact hown
  have hins : (Cond.instantiable cls 6).before args s' = true := h _ (by simp [Bundle.ownAtoms])
  obtain ⟨vm₁, cX, kX, hfX, hkX, -, -, X₁, st1⟩ := Y.newCold hexec (own := own) (C := cls) (index := ik) (n := 6) hown' hk' hins hini'
    (g := F0 m pc ls rest) rfl (by rw [hb]; exact d0) (Nat.le_refl _) (Nat.le_refl _)
  generalize hT1 : (T.setVm vm₁).pushCell { cls := cX, slots := kX.instanceTypes.map defaultValue, vm := .none } = T1 at X₁ st1
  have hcat : (Value.ref T.heap.size).category = 1 := rfl
  have hcellA : T1.heap[T.heap.size]? = some (freshCell cX kX) := by rw [← hT1]; exact State.heap_pushCell_size _ _
  have d3' : decode c.code (pc + 3) = .ok (.dup, 1) := by rw [hb]; exact d3
  have d4' : decode c.code (pc + 4) = .ok (.ldc_w is, 3) := by rw [hb]; exact d4
  have hstr' : vk_R own is text sa s' := vk_R.warm hW0 hstr
  obtain ⟨U, hsteps, hrun, hend, hW, hsame, ce, hce, hO⟩ := X₁.ctorThrowS hexec htr (own := own) (cls := cls) (names := names) (ic := ic) hown' hcls hnames h (fun x hx => nomatch hx) hfX hkX hcellA (by rw [hhp, hT]; exact Nat.le_refl _) (msg := .ref sa) rfl
    (g := { method := m, pc := pc + 7, locals := ls, stack := .ref sa :: .ref T.heap.size :: .ref T.heap.size :: rest, locked := none }) rfl hsize rfl rfl (rest := rest) rfl
    (by rw [hb]; exact d7) (by rw [hb]; exact d10) hout hRframes (by simp only [List.map_cons, List.sum_cons, hcat]; omega) hlocks
  obtain ⟨f1, f2⟩ := vx_frame hsame
  rw [hhp] at f1 f2
  have hWs : s.WarmedH U.vm := State.WarmedH.trans hW0 hW
  have hcl : s.vm.findClass cls = some ce.cls := by
    have h9 := hO.cls
    rw [hvm] at h9
    exact h9
  have hall : s.sameButNew ({ U with vm := s.vm } : State) locs mc ms := by
    subst hA
    obtain ⟨e1, e2⟩ := hsame
    rw [State.setFrames_setFrames] at e1
    have h2 : (T.setVm s.vm).sameButNew ({ U with vm := s.vm } : State) [] (0 + 1) (0 + 6) := ⟨e1, e2⟩
    have h3 := X.same.trans h2
    rw [List.append_nil] at h3
    exact h3.mono hc hs
  refine ⟨U, ?_, .threw T.heap.size, hrun, hend, Or.inr ⟨T.heap.size, rfl, cls, ce, locs, hx U hWs.alike f1 (fun q hq => f2 q hq (fun z hz => nomatch hz)), hce, hO.vm, hcl, hWs, hall, hf⟩⟩
  refine st1 _ ?_
  show Steps p.tables e below (T1.setTop { method := m, pc := pc + 3, locals := ls, stack := .ref T.heap.size :: rest, locked := none }) _
  jvm_step X₁.here [X₁.here.top, hexec, d3', Value.category]
  exact X₁.ldcStringW hexec (own := own) (text := text) (index := is) (a := sa) hown' hstr'.1 hstr'.2
    (g := { method := m, pc := pc + 4, locals := ls, stack := .ref T.heap.size :: .ref T.heap.size :: rest, locked := none }) rfl d4' _ hsteps
end Ends
section Bodies
variable {l : Launch}
theorem vx_ofW {y : MethodName} {ws ws' : List Cond} {rm : Room} {Pc : Array Value → State → Prop} {Qc : Array Value → State → Outcome → State → Prop} {XC : String → State → State → Prop} {mc ms : Nat} {free : Addr → Prop} {cc : ByteArray} {maxL : Nat} {ret : Option FieldType}
    (hy : plainName y.cls = true) (hw : ws = Cond.code y cc maxL ret :: ws')
    (body : ∀ p e s m args below meth c s₁, BodyLoose p l y (headSpec ws rm) cc maxL ret e s m args below meth c s₁ → c.maxLocals = maxL → (∀ x ∈ c.exceptionTable.toList, False) → Pc args s →
      W p l e (headSpec ws rm).room s m args below meth c s.heap [] 0 0 (vx_MQ below Qc XC args s mc ms free) (entryFrame m args maxL)) : vx_Met l y ws rm Pc Qc XC mc ms free := by
  refine MetFree.of_bodyS (code := cc) (maxLocals := maxL) (ret := ret) hy ?_ ?_
  · intro args s m h hn
    obtain ⟨meth, c, h1, h2, h3, h4, h5, h6, -, -⟩ := Cond.code_spec hn (atoms_spec (ws := ws) h _ (by rw [hw]; exact List.mem_cons_self))
    exact ⟨meth, c, h1, h2, h3, h4, h5, h6⟩
  · intro p e s m args below meth c s₁ B hml hP _
    have hh0 : s₁.heap = s.heap := by rw [B.state]; rfl
    have ht : ∀ x ∈ c.exceptionTable.toList, False := by
      obtain ⟨meth9, c9, h1, h2, -, -, -, -, h7, -⟩ := Cond.code_spec B.named (atoms_spec (ws := ws) B.pre _ (by rw [hw]; exact List.mem_cons_self))
      cases Option.some.inj (h1.symm.trans B.method)
      cases Option.some.inj (h2.symm.trans (Stand.of_body B).code)
      intro x hx
      rw [Array.isEmpty_iff.mp h7] at hx
      cases hx
    obtain ⟨t, a1, o, b1, b2, b3⟩ := body p e s m args below meth c s₁ B hml ht hP s₁ hh0 (Stand.of_body B)
    exact ⟨t, o, a1, b1, b2, b3⟩
/-- the table of a body with handlers -/
theorem vx_table {p : Program} {x y : MethodName} {S : Spec} {cc bytes : ByteArray} {maxL maxL' : Nat} {ret ret' : Option FieldType} {e : Env} {s s₁ : State} {m : MethodId} {args : Array Value} {below : List Frame} {meth : Method} {c : Code} {hh : List (Nat × Nat × Nat × Nat)}
    (B : BodyLoose p l y S cc maxL ret e s m args below meth c s₁) (h : (Cond.codeWith y bytes maxL' ret' hh).before args s = true) : c.exceptionTable.toList = tableOf hh := by
  obtain ⟨m9, meth9, c9, hn9, h1, h2, -, -, h6, -⟩ := Cond.codeWith_spec h
  cases Option.some.inj (hn9.symm.trans B.named)
  cases Option.some.inj (h1.symm.trans B.method)
  cases Option.some.inj (h2.symm.trans (Stand.of_body B).code)
  rw [← h6, table_eq]
end Bodies
end VXA
/-! ===== END ===== -/
/-! ===== BEGIN a static call of a method with an exception table ===== -/
section VXS
variable {p : Program} {l : Launch} {e : Env} {R : Room} {s : State} {m : MethodId} {args : Array Value} {below : List Frame} {meth : Method} {c : Code} {T : State} {H : Heap} {locs : List Loc} {cells slots : Nat}
abbrev vx_CSW (R : Room) (s : State) (args : Array Value) (own : String) (index : Nat) (y : MethodName) (bytes : ByteArray) (maxL : Nat) (ret : Option FieldType) (hh : List (Nat × Nat × Nat × Nat)) (ws : List Cond) (rm : Room) (mc ms n : Nat) : Prop :=
  (rm.cells = mc ∧ rm.slots = ms ∧ rm.frames + 1 ≤ R.frames ∧ 8 + (maxL + 11) + rm.locals ≤ R.locals ∧ (∀ w ∈ ws, ∀ (a' : Array Value) (U : State), s.WarmedH U.vm → w.before a' U = true) ∧ Cond.codeWith y bytes maxL ret hh ∈ ws) ∧
  (Cond.codeWith y bytes maxL ret hh).before args s = true ∧ (Cond.initialized y.cls).before args s = true ∧ (y.cls ≠ "java/lang/invoke/MethodHandle" ∧ y.cls ≠ "java/lang/invoke/VarHandle") ∧
  (∀ sig, parseMethodDescriptor y.desc = some sig → n = sig.parameters.length) ∧ (Cond.methodLink own index y).before args s = true ∧ (Cond.static y).before args s = true
theorem vx_cwSW {own : String} {index maxL mc ms : Nat} {y : MethodName} {bytes : ByteArray} {ret : Option FieldType} {hh : List (Nat × Nat × Nat × Nat)} {Ts ws ws' : List Cond} {rm : Room} (n : Nat) (ht : ∀ w ∈ Ts, w.before args s = true) (hT : GoodIn Ts (va_wsS own index y ws)) (hw : ws = Cond.codeWith y bytes maxL ret hh :: ws') (hrc : rm.cells = mc) (hrs : rm.slots = ms)
    (hd : y.cls ≠ "java/lang/invoke/MethodHandle" ∧ y.cls ≠ "java/lang/invoke/VarHandle" ∧ (parseMethodDescriptor y.desc).map (fun d => d.parameters.length) = some n) (hR : rm.frames + 1 ≤ R.frames ∧ 8 + (maxL + 11) + rm.locals ≤ R.locals) :
    vx_CSW R s args own index y bytes maxL ret hh ws rm mc ms n := by
  have ok : ∀ w ∈ va_wsS own index y ws, w.before args s = true := fun w h => ht w (hT w h).1
  have hG : GoodIn Ts ws := fun w h => hT w (by unfold va_wsS; exact List.mem_append_right _ h)
  have hc : Cond.codeWith y bytes maxL ret hh ∈ ws := by rw [hw]; exact List.mem_cons_self
  refine ⟨⟨hrc, hrs, hR.1, hR.2, pay_in ht hG, hc⟩, ht _ (hG _ hc).1, ok _ (by simp [va_wsS]), ⟨hd.1, hd.2.1⟩, fun sig h => ?_, ok _ (by simp [va_wsS]), ok _ (by simp [va_wsS])⟩
  have h2 := hd.2.2
  rw [h] at h2
  exact (Option.some.inj h2).symm
theorem vx_callSW (X : Stand p l e R s m args below meth c T locs cells slots) (hexec : p.tables.exec = Jvm.exec) {own : String} {index : Nat} {y : MethodName} {bytes : ByteArray} {maxL : Nat} {ret : Option FieldType} {hh : List (Nat × Nat × Nat × Nat)}
    (hown : s.vm.findClass own = some m.cls) (hlink : (Cond.methodLink own index y).before args s = true) (hstat : (Cond.static y).before args s = true) (hinit : (Cond.initialized y.cls).before args s = true)
    (hcode : (Cond.codeWith y bytes maxL ret hh).before args s = true) (hy : y.cls ≠ "java/lang/invoke/MethodHandle" ∧ y.cls ≠ "java/lang/invoke/VarHandle")
    {W9 : Nat} {Pre : Pt → Array Value → Prop} {Post : Pt → Array Value → Option Value → Pt → Prop} (hK : Back l R p e below s args y 3 W9 Pre Post)
    {g : JFrame} (hg : g.method = m) (hsize : g.locals.size = c.maxLocals) {argsL rest : List Value} (hlen : ∀ sig, parseMethodDescriptor y.desc = some sig → argsL.length = sig.parameters.length)
    (hstack : g.stack = argsL.reverse ++ rest) (hW : 2 * g.monitorRoom + (rest.map fun v => v.category).sum ≤ W9) (hdg : decode c.code g.pc = .ok (.invokestatic index, 3))
    (hpre : ∀ vm₁, s.WarmedH vm₁ → Pre ⟨T.setVm vm₁, locs, cells, slots⟩ argsL.toArray) :
    ∃ (v : Option Value) (vm₁ : Vm) (B : Pt), s.WarmedH vm₁ ∧ Stand p l e R s m args below meth c B.U B.locs B.cells B.slots ∧ Post ⟨T.setVm vm₁, locs, cells, slots⟩ argsL.toArray v B ∧
      ∀ target, Steps p.tables e below (B.U.setTop { g with pc := g.pc + 3, stack := v.toList ++ rest }) target → Steps p.tables e below (T.setTop g) target := by
  obtain ⟨mk, methM, cM, hnamed, hmethM, -, -, -, -, -, -, hsigM⟩ := Cond.codeWith_spec hcode
  have hstatic : methM.isStatic = true := Cond.static_spec hnamed hmethM hstat
  obtain ⟨kP, hkP, -⟩ := className_of_methodNamed hnamed
  have hinitP : kP.init = .initialized := Cond.initialized_spec (findClass_of_methodNamed hnamed) hkP hinit
  obtain ⟨vm₁, X₁, hstep₁⟩ := X.invokestatic hexec hown hlink hnamed hmethM hstatic hkP hinitP hy (g := g) hg (argsL := argsL) (rest := rest) (hlen _ hsigM) hstack hdg
  obtain ⟨v, B, X', hpost, hsteps⟩ := hK m meth c ⟨T.setVm vm₁, locs, cells, slots⟩ { g with stack := rest } (.invokestatic index) mk argsL.toArray X₁ hg hsize hdg hW (X₁.named hnamed) (hpre vm₁ X₁.warmed)
  exact ⟨v, vm₁, B, X₁.warmed, X', hpost, fun target h => hstep₁ _ fun acts => by rw [doInvoke_state]; exact hsteps.trans h⟩
theorem vx_runSW {y : MethodName} {bytes cc : ByteArray} {maxL nL mc ms n index : Nat} {ret : Option FieldType} {hh : List (Nat × Nat × Nat × Nat)} {ws : List Cond} {rm : Room} {Pc : Array Value → State → Prop} {Qc : Array Value → State → Outcome → State → Prop} {free : Addr → Prop} {Ts : List Cond} {own : String} {As rest : List Value} {g : JFrame}
    (S : CallFix p m c cc nL s args Ts own) (hM : Met l y ws rm Pc Qc mc ms free) (cw : vx_CSW R s args own index y bytes maxL ret hh ws rm mc ms n) (hp : PreS s H Pc As)
    (hg : g.method = m) (hn : As.length = n) (hsize : g.locals.size = nL) (hstack : g.stack = As.reverse ++ rest) (hW : 2 * g.monitorRoom + (rest.map fun v => v.category).sum ≤ 8) (hdg : decode cc g.pc = .ok (.invokestatic index, 3)) (hf : cells + mc ≤ R.cells ∧ slots + ms ≤ R.slots) :
    va_Run p l e R s m args below meth c H locs cells slots mc ms g rest (Qc As.toArray) (free) := by
  obtain ⟨⟨hrc, hrs, hfr, hlo, hws, hcw⟩, hcode, hini, hy, hlen, hl, hstt⟩ := cw
  have hK : Back l R p e below s args y 3 8 (PreOf R mc ms Pc) (PostOf Qc mc ms free) := va_backW (hh := hh) (bytes := bytes) (maxL := maxL) (ret := ret) hM hp.1 hrc hrs hfr hlo hws hcw (fun a' U hW => word_at hW (Or.inl (by first | rfl | simp [Cond.onTables, Cond.keeps, Cond.steady])) hini)
  obtain ⟨hx, hb, hml, ho, -⟩ := S
  intro T hT X
  obtain ⟨v, vm₁, ⟨U', l2, c2, s2⟩, hW₁, X', ⟨g', mk, t, L, e1, e2, hq, h1, hL, h2, h3⟩, st⟩ := vx_callSW X hx (hh := hh) (bytes := bytes) (maxL := maxL) (ret := ret) ho hl hstt hini hcode hy hK hg (hsize.trans hml.symm) (argsL := As) (rest := rest) (fun sig h => hn.trans (hlen sig h)) hstack hW (by rw [hb]; exact hdg)
    (fun vm₁ hW₁ => ⟨hf.1, hf.2, hp.2 (T.setVm vm₁) hT hW₁⟩)
  dsimp only [Pt.U, Pt.locs, Pt.cells, Pt.slots] at X' e1 e2 h1 h2 h3 st
  subst h1; subst h2; subst h3
  exact ⟨v, (T.setVm vm₁).calling g' mk As.toArray, t, U', L, hT, X', hL, e1, e2, hq, st⟩
/-- not caught here, past rows that name other classes: it goes on to the caller -/
theorem vx_outP {p : Program} {l : Launch} {e : Env} {R : Room} {s : State} {m : MethodId} {args : Array Value} {below : List Frame} {meth : Method} {c : Code} {H : Heap} {locs : List Loc} {cells slots : Nat} {free : Addr → Prop} {ls : Array Slot} {rest : List Value} {Qc : Array Value → State → Outcome → State → Prop} {XC : String → State → State → Prop}
    {pc : Nat} {own E : String} {ce : Cell} {q : Addr} {mc ms : Nat} (hown : s.vm.findClass own = some m.cls) (hlocks : meth.locks = false)
    (hpass : ∀ z ∈ c.exceptionTable.toList, covers z pc = false ∨ (z.catchType ≠ 0 ∧ ∃ nm : String, (Cond.classLink own z.catchType nm).before args s = true ∧ va_Nc E nm s)) (hcell : H[q]? = some ce) (hv : ce.vm = .none) (hcl : s.vm.findClass E = some ce.cls)
    (hx : ∀ t : State, t.heap = H → s.vm.Alike t.vm → XC E s t) (hf : ∀ z ∈ locs, free z.base) (hc : cells ≤ mc) (hs : slots ≤ ms) :
    vx_W p l e R s m args below meth c H locs cells slots (vx_MQ below Qc XC args s mc ms free) (F0 m pc ls rest) q := by
  intro T hT X
  have hpl : e.platform.magicAccessors = ({} : Platform).magicAccessors := by rw [X.admits.platform]
  obtain ⟨vm', hW', X', st⟩ := X.outThrough hlocks q (g := F0 m pc ls rest) rfl rfl rfl (cell := ce) (by rw [hT]; exact hcell) (by rw [hv]; rfl)
    (by obtain ⟨k9, h9, -⟩ := Vm.findClass_spec hcl; exact ⟨k9, h9⟩) (fun z hz => by
      rcases hpass z hz with h | ⟨hz0, nm, hl1, hn1⟩
      · exact Or.inl h
      · obtain ⟨c6, hc6, hcl6⟩ := Cond.classLink_spec hown hl1 e.platform hpl
        obtain ⟨a8, b8, h1, h2, h3⟩ := hn1
        cases Option.some.inj (h1.symm.trans hcl)
        cases Option.some.inj (h2.symm.trans hc6)
        exact Or.inr ⟨hz0, _, hcl6, h3⟩)
  obtain ⟨g₀, hfr⟩ := X'.frames_eq
  have hcell9 : ((T.setVm vm').setFrames (.throwing q :: below)).heap[q]? = some ce := by
    show T.heap[q]? = some ce
    rw [hT]; exact hcell
  have hend : Ended ((T.setVm vm').setFrames (.throwing q :: below)) below (.threw q) := State.frames_setFrames _ (State.cur_lt_of_frames hfr)
  refine ⟨(T.setVm vm').setFrames (.throwing q :: below), ?_, .threw q, X'.here.running, hend, Or.inr ⟨q, rfl, E, ce, locs, hx _ hT (X'.ends _).1.alike, hcell9, hv, hcl, (X'.ends _).1, (X'.ends _).2.mono hc hs, hf⟩⟩
  rw [X.pushThrowing_eq]
  exact st
/-- a thing of a world lies in the heap -/
theorem vx_lt {D : va_G} {cl : List vw_C} {ws : va_W} {H1 : Heap} (h : va_P D cl ws H1) {k : Nat} {q : Nat × va_E} (hk : ws[k]? = some q) : q.1 < H1.size := (h k q hk).lt
end VXS
/-! ===== END ===== -/
/-! ===== BEGIN methods with a table of their own: called by a name, returning or throwing ===== -/
section VXH
/-! vx_backW, vx_callVX, vx_callSX, vx_callVW, vx_runVW, vx_runVX, vx_runSX, vx_ofWH follow the same proofs as their sisters above (Free/Laws.lean, Shelf42/LK1.lean); vx_outP calls Shelf42/NT130.lean (outThrough). -/
section
variable {l : Launch} {R : Room} {p : Program} {e : Env} {below : List Frame} {s : State} {sargs : Array Value} {y : MethodName} {len W9 : Nat}
theorem vx_backW {ws : List Cond} {rm : Room} {Pc : Array Value → State → Prop} {Qc : Array Value → State → Outcome → State → Prop} {XC : String → State → State → Prop} {mc ms : Nat} {free : Addr → Prop} {bytes : ByteArray} {maxL : Nat} {ret : Option FieldType} {hh : List (Nat × Nat × Nat × Nat)}
    (hM : vx_Met l y ws rm Pc Qc XC mc ms free) (hblind : FrameBlind Pc) (hrc : rm.cells = mc) (hrs : rm.slots = ms)
    (hframes : rm.frames + 1 ≤ R.frames) (hlocals : W9 + (maxL + 11) + rm.locals ≤ R.locals)
    (hws : ∀ w ∈ ws, ∀ a' U, s.WarmedH U.vm → w.before a' U = true) (hcode : Cond.codeWith y bytes maxL ret hh ∈ ws) (hinit : ∀ a' U, s.WarmedH U.vm → (Cond.initialized y.cls).before a' U = true) :
    vx_Back l R p e below s sargs y len W9 (PreOf R mc ms Pc) (PostOf Qc mc ms free) (vx_Post XC mc ms free) := by
  intro m meth c A g ig mk a X hg hsize hdg hW hn hp
  have h1 : (headSpec ws rm).pre.before a A.U = true := atoms_intro fun w hw => hws w hw _ _ X.warmed
  have h2 : (Cond.codeWith y bytes maxL ret hh).before a A.U = true := hws _ hcode _ _ X.warmed
  have h3 : (Cond.initialized y.cls).before a A.U = true := hinit _ _ X.warmed
  have h4 : A.cells + (headSpec ws rm).room.cells ≤ R.cells := by rw [show (headSpec ws rm).room.cells = mc from hrc]; exact hp.1
  have h5 : A.slots + (headSpec ws rm).room.slots ≤ R.slots := by rw [show (headSpec ws rm).room.slots = ms from hrs]; exact hp.2.1
  have hPc : Pc a (A.U.calling g mk a) := hblind _ _ _ _ hp.2.2
  obtain ⟨U, Ls, c0, s0⟩ := A
  dsimp only [Pt.U, Pt.locs, Pt.cells, Pt.slots] at h1 h2 h3 h4 h5 X hn hPc ⊢
  obtain ⟨m9, methY, cY, hn9, hmY, hcY, -, hlY, -⟩ := Cond.codeWith_spec h2
  cases Option.some.inj (hn9.symm.trans hn)
  obtain ⟨kY, hkY, -⟩ := className_of_methodNamed hn
  have hinitY : kY.init = .initialized := Cond.initialized_spec (findClass_of_methodNamed hn) hkY h3
  have h : At U g.method c below := by rw [hg]; exact X.here
  have hlocals9 : W9 + (maxL + 11) + (headSpec ws rm).room.locals ≤ R.locals := hlocals
  have happ : (headSpec ws rm).appliesLoose y e.platform (U.calling g mk a) = true :=
    Spec.appliesLoose_calling (g := g) h hdg hn hkY hinitY
      (X.room_calling (g := g) (R' := (headSpec ws rm).room) hsize hmY hcY hframes (by rw [hlY]; omega) h4 h5) h1
  obtain ⟨mid, hmid⟩ := h.above
  have hfr : (U.setTop g).frames = (.java g :: mid) ++ below := by rw [State.frames_setTop' g h.top, hmid]; rfl
  obtain ⟨o, s₂, hsteps, -, hend, hq⟩ := Steps.callFree hM p X.admits X.cas X.clock (acts := []) hfr happ hPc trivial
  have hq' : vx_Q Qc XC mc ms free a (U.calling g mk a) o s₂ := hq
  rw [State.frames_setTop' g h.top] at hend
  obtain ⟨g₀, hg0⟩ := Option.isSome_iff_exists.mp h.top
  obtain ⟨r, hr⟩ := State.topJava?_eq_some.mp hg0
  have hr' : (({ U with heap := s₂.heap, slotsUsed := s₂.slotsUsed } : State).setVm s₂.vm).frames = .java g₀ :: r := hr
  rcases hq' with ⟨hqc, L, hfe, hL⟩ | ⟨q, rfl, E, ce, L, hx, hce, hcv, hcl, hW₂, hsm, hL⟩
  · obtain ⟨⟨v, rfl⟩, hW₂, e2, q2, q3, q4, q5, q6⟩ := id hfe
    have e3 : s₂ = ({ (U.calling g mk a).setFrames s₂.frames with heap := s₂.heap, slotsUsed := s₂.slotsUsed } : State).setVm s₂.vm := by
      have : s₂ = ({ s₂ with vm := (U.calling g mk a).vm } : State).setVm s₂.vm := rfl
      rw [e2] at this
      exact this
    obtain ⟨c₂, i₂, len₂, hc₂, hd₂, hf₂⟩ := hend
    have hW' : U.WarmedH s₂.vm := hW₂
    have hcc : c₂ = c := by
      have h1 : s₂.code? g.method = U.code? g.method := by
        rw [State.code?_eq, State.code?_eq, hW'.alike.method?]
      exact Option.some.inj (hc₂.symm.trans (h1.trans h.code))
    subst hcc
    have hlen : len₂ = len := by rw [hdg] at hd₂; cases hd₂; rfl
    subst hlen
    have hs₂ : s₂ = (({ U with heap := s₂.heap, slotsUsed := s₂.slotsUsed } : State).setVm s₂.vm).setTop { g with pc := g.pc + len₂, stack := v.toList ++ g.stack } := by
      refine e3.trans ?_
      rw [hf₂, State.calling_eq h.top, State.setFrames_setFrames, State.setTop_of_frames _ hr', hr]
      rfl
    have hsame : U.sameButNew ({ U with heap := s₂.heap, slotsUsed := s₂.slotsUsed } : State) L mc ms := by
      refine ⟨?_, q2, q3, q4, q5, q6⟩
      obtain ⟨t, ht, -⟩ := State.frames_cons hr
      show ({ U with heap := s₂.heap, slotsUsed := s₂.slotsUsed } : State) = { U.setFrames U.frames with heap := s₂.heap, slotsUsed := s₂.slotsUsed }
      rw [State.setFrames_self ht]
    subst hg
    refine Or.inl ⟨v, ⟨(({ U with heap := s₂.heap, slotsUsed := s₂.slotsUsed } : State).setVm s₂.vm), Ls ++ L, c0 + mc, s0 + ms⟩,
      ⟨X.admits, X.cas, X.clock, X.frames, X.room, X.hears, X.method, X.code, (X.here.setHeapUsed s₂.heap s₂.slotsUsed).setVm hW'.alike, X.tail, State.WarmedH.trans X.warmed hW', X.limits, X.bytes, X.same.trans (hsame.setVm s.vm)⟩,
      ⟨g, mk, s₂, L, rfl, rfl, hqc, rfl, hL, rfl, rfl⟩, ?_⟩
    show Steps p.tables e below _ ((({ U with heap := s₂.heap, slotsUsed := s₂.slotsUsed } : State).setVm s₂.vm).setTop { g with pc := g.pc + len₂, stack := v.toList ++ g.stack })
    rw [← hs₂]
    exact hsteps
  · obtain ⟨e2, q2, q3, q4, q5, q6⟩ := id hsm
    have e3 : s₂ = ({ (U.calling g mk a).setFrames s₂.frames with heap := s₂.heap, slotsUsed := s₂.slotsUsed } : State).setVm s₂.vm := by
      have : s₂ = ({ s₂ with vm := (U.calling g mk a).vm } : State).setVm s₂.vm := rfl
      rw [e2] at this
      exact this
    have hf₂ : s₂.frames = .throwing q :: .java g :: U.frames.tail := hend
    have hW' : U.WarmedH s₂.vm := hW₂
    have hs₂ : s₂ = ((({ U with heap := s₂.heap, slotsUsed := s₂.slotsUsed } : State).setVm s₂.vm).setTop g).pushFrame (.throwing q) := by
      refine e3.trans ?_
      rw [hf₂, State.calling_eq h.top, State.setFrames_setFrames, State.pushFrame, State.frames_setTop _ hr', State.setTop_of_frames _ hr', State.setFrames_setFrames, hr]
      rfl
    have hsame : U.sameButNew ({ U with heap := s₂.heap, slotsUsed := s₂.slotsUsed } : State) L mc ms := by
      refine ⟨?_, q2, q3, q4, q5, q6⟩
      obtain ⟨t, ht, -⟩ := State.frames_cons hr
      show ({ U with heap := s₂.heap, slotsUsed := s₂.slotsUsed } : State) = { U.setFrames U.frames with heap := s₂.heap, slotsUsed := s₂.slotsUsed }
      rw [State.setFrames_self ht]
    subst hg
    refine Or.inr ⟨q, ⟨(({ U with heap := s₂.heap, slotsUsed := s₂.slotsUsed } : State).setVm s₂.vm), Ls ++ L, c0 + mc, s0 + ms⟩,
      ⟨X.admits, X.cas, X.clock, X.frames, X.room, X.hears, X.method, X.code, (X.here.setHeapUsed s₂.heap s₂.slotsUsed).setVm hW'.alike, X.tail, State.WarmedH.trans X.warmed hW', X.limits, X.bytes, X.same.trans (hsame.setVm s.vm)⟩,
      ⟨g, mk, s₂, L, E, ce, rfl, rfl, hx, hce, hcv, hcl, rfl, hL, rfl, rfl⟩, ?_⟩
    show Steps p.tables e below _ (((({ U with heap := s₂.heap, slotsUsed := s₂.slotsUsed } : State).setVm s₂.vm).setTop g).pushFrame (.throwing q))
    rw [← hs₂]
    exact hsteps
end
variable {p : Program} {l : Launch} {e : Env} {R : Room} {s : State} {m : MethodId} {args : Array Value} {below : List Frame} {meth : Method} {c : Code} {T : State} {H : Heap} {locs : List Loc} {cells slots : Nat}
theorem vx_callVX (X : Stand p l e R s m args below meth c T locs cells slots) (hexec : p.tables.exec = Jvm.exec) {own C : String} {index : Nat} {y : MethodName} {bytes : ByteArray} {maxL : Nat} {ret : Option FieldType} {hh : List (Nat × Nat × Nat × Nat)}
    (hown : s.vm.findClass own = some m.cls) (hlink : (Cond.methodLink own index y).before args s = true) (hinst : (Cond.instanceMethod y).before args s = true) (hsel : (Cond.selects C y y).before args s = true)
    (hcode : (Cond.codeWith y bytes maxL ret hh).before args s = true) (hy : y.cls ≠ "java/lang/invoke/MethodHandle" ∧ y.cls ≠ "java/lang/invoke/VarHandle")
    {W9 : Nat} {Pre : Pt → Array Value → Prop} {Post : Pt → Array Value → Option Value → Pt → Prop} {PostX : Pt → Array Value → Addr → Pt → Prop} (hK : vx_Back l R p e below s args y 3 W9 Pre Post PostX)
    {b : Addr} {cellB : Cell} (hcell : T.heap[b]? = some cellB) (hobj : cellB.vm.isStatics = false) (hcls : s.vm.findClass C = some cellB.cls)
    {g : JFrame} (hg : g.method = m) (hsize : g.locals.size = c.maxLocals) {argsL rest : List Value} (hlen : ∀ sig, parseMethodDescriptor y.desc = some sig → argsL.length = sig.parameters.length)
    (hstack : g.stack = argsL.reverse ++ .ref b :: rest) (hW : 2 * g.monitorRoom + (rest.map fun v => v.category).sum ≤ W9) (hdg : decode c.code g.pc = .ok (.invokevirtual index, 3))
    (hpre : ∀ vm₁, s.WarmedH vm₁ → Pre ⟨T.setVm vm₁, locs, cells, slots⟩ (Value.ref b :: argsL).toArray) :
    (∃ (v : Option Value) (vm₁ : Vm) (B : Pt), s.WarmedH vm₁ ∧ Stand p l e R s m args below meth c B.U B.locs B.cells B.slots ∧ Post ⟨T.setVm vm₁, locs, cells, slots⟩ (Value.ref b :: argsL).toArray v B ∧
      ∀ target, Steps p.tables e below (B.U.setTop { g with pc := g.pc + 3, stack := v.toList ++ rest }) target → Steps p.tables e below (T.setTop g) target) ∨
    (∃ (q : Addr) (vm₁ : Vm) (B : Pt), s.WarmedH vm₁ ∧ Stand p l e R s m args below meth c B.U B.locs B.cells B.slots ∧ PostX ⟨T.setVm vm₁, locs, cells, slots⟩ (Value.ref b :: argsL).toArray q B ∧
      Steps p.tables e below (T.setTop g) ((B.U.setTop { g with stack := rest }).pushFrame (.throwing q))) := by
  obtain ⟨mk, methM, hnamed, hmethM, hstM, habM⟩ := Cond.instanceMethod_spec hinst
  obtain ⟨m8, methM', cM, hn8, hmethM', -, -, -, -, -, -, hsigM⟩ := Cond.codeWith_spec hcode
  cases Option.some.inj (hn8.symm.trans hnamed)
  cases hmethM.symm.trans hmethM'
  obtain ⟨c2, r2, m2, q1, q2, q3, q4, kP, hkP, hkPi⟩ := Cond.selects_spec hsel
  cases hcls.symm.trans q1
  cases (State.methodFound?_of_named hnamed hy).symm.trans q2
  cases hnamed.symm.trans q3
  have hselP : selectMethod e.platform s.vm cellB.cls mk = .method mk := by rw [Launch.admits_selectMethod X.admits]; exact q4
  obtain ⟨vm₁, X₁, hstep₁⟩ := X.invokevirtual hexec hown hlink hnamed hmethM hstM hkP hkPi hy (a := b) (cell := cellB) hcell
    (fun z h => by rw [h] at hobj; cases hobj) hselP hmethM habM hkP hkPi (g := g) hg (argsL := argsL) (rest := rest) (hlen _ hsigM) hstack hdg
  rcases hK m meth c ⟨T.setVm vm₁, locs, cells, slots⟩ { g with stack := rest } (.invokevirtual index) mk (Value.ref b :: argsL).toArray X₁ hg hsize hdg hW (X₁.named hnamed) (hpre vm₁ X₁.warmed) with ⟨v, B, X', hpost, hsteps⟩ | ⟨q, B, X', hpost, hsteps⟩
  · exact Or.inl ⟨v, vm₁, B, X₁.warmed, X', hpost, fun target h => hstep₁ _ fun acts => by rw [doInvoke_state]; exact hsteps.trans h⟩
  · exact Or.inr ⟨q, vm₁, B, X₁.warmed, X', hpost, hstep₁ _ fun acts => by rw [doInvoke_state]; exact hsteps⟩
theorem vx_callSX (X : Stand p l e R s m args below meth c T locs cells slots) (hexec : p.tables.exec = Jvm.exec) {own : String} {index : Nat} {y : MethodName} {bytes : ByteArray} {maxL : Nat} {ret : Option FieldType} {hh : List (Nat × Nat × Nat × Nat)}
    (hown : s.vm.findClass own = some m.cls) (hlink : (Cond.methodLink own index y).before args s = true) (hstat : (Cond.static y).before args s = true) (hinit : (Cond.initialized y.cls).before args s = true)
    (hcode : (Cond.codeWith y bytes maxL ret hh).before args s = true) (hy : y.cls ≠ "java/lang/invoke/MethodHandle" ∧ y.cls ≠ "java/lang/invoke/VarHandle")
    {W9 : Nat} {Pre : Pt → Array Value → Prop} {Post : Pt → Array Value → Option Value → Pt → Prop} {PostX : Pt → Array Value → Addr → Pt → Prop} (hK : vx_Back l R p e below s args y 3 W9 Pre Post PostX)
    {g : JFrame} (hg : g.method = m) (hsize : g.locals.size = c.maxLocals) {argsL rest : List Value} (hlen : ∀ sig, parseMethodDescriptor y.desc = some sig → argsL.length = sig.parameters.length)
    (hstack : g.stack = argsL.reverse ++ rest) (hW : 2 * g.monitorRoom + (rest.map fun v => v.category).sum ≤ W9) (hdg : decode c.code g.pc = .ok (.invokestatic index, 3))
    (hpre : ∀ vm₁, s.WarmedH vm₁ → Pre ⟨T.setVm vm₁, locs, cells, slots⟩ argsL.toArray) :
    (∃ (v : Option Value) (vm₁ : Vm) (B : Pt), s.WarmedH vm₁ ∧ Stand p l e R s m args below meth c B.U B.locs B.cells B.slots ∧ Post ⟨T.setVm vm₁, locs, cells, slots⟩ argsL.toArray v B ∧
      ∀ target, Steps p.tables e below (B.U.setTop { g with pc := g.pc + 3, stack := v.toList ++ rest }) target → Steps p.tables e below (T.setTop g) target) ∨
    (∃ (q : Addr) (vm₁ : Vm) (B : Pt), s.WarmedH vm₁ ∧ Stand p l e R s m args below meth c B.U B.locs B.cells B.slots ∧ PostX ⟨T.setVm vm₁, locs, cells, slots⟩ argsL.toArray q B ∧
      Steps p.tables e below (T.setTop g) ((B.U.setTop { g with stack := rest }).pushFrame (.throwing q))) := by
  obtain ⟨mk, methM, cM, hnamed, hmethM, -, -, -, -, -, -, hsigM⟩ := Cond.codeWith_spec hcode
  have hstatic : methM.isStatic = true := Cond.static_spec hnamed hmethM hstat
  obtain ⟨kP, hkP, -⟩ := className_of_methodNamed hnamed
  have hinitP : kP.init = .initialized := Cond.initialized_spec (findClass_of_methodNamed hnamed) hkP hinit
  obtain ⟨vm₁, X₁, hstep₁⟩ := X.invokestatic hexec hown hlink hnamed hmethM hstatic hkP hinitP hy (g := g) hg (argsL := argsL) (rest := rest) (hlen _ hsigM) hstack hdg
  rcases hK m meth c ⟨T.setVm vm₁, locs, cells, slots⟩ { g with stack := rest } (.invokestatic index) mk argsL.toArray X₁ hg hsize hdg hW (X₁.named hnamed) (hpre vm₁ X₁.warmed) with ⟨v, B, X', hpost, hsteps⟩ | ⟨q, B, X', hpost, hsteps⟩
  · exact Or.inl ⟨v, vm₁, B, X₁.warmed, X', hpost, fun target h => hstep₁ _ fun acts => by rw [doInvoke_state]; exact hsteps.trans h⟩
  · exact Or.inr ⟨q, vm₁, B, X₁.warmed, X', hpost, hstep₁ _ fun acts => by rw [doInvoke_state]; exact hsteps⟩
theorem vx_callVW (X : Stand p l e R s m args below meth c T locs cells slots) (hexec : p.tables.exec = Jvm.exec) {own C : String} {index : Nat} {y : MethodName} {bytes : ByteArray} {maxL : Nat} {ret : Option FieldType} {hh : List (Nat × Nat × Nat × Nat)}
    (hown : s.vm.findClass own = some m.cls) (hlink : (Cond.methodLink own index y).before args s = true) (hinst : (Cond.instanceMethod y).before args s = true) (hsel : (Cond.selects C y y).before args s = true)
    (hcode : (Cond.codeWith y bytes maxL ret hh).before args s = true) (hy : y.cls ≠ "java/lang/invoke/MethodHandle" ∧ y.cls ≠ "java/lang/invoke/VarHandle")
    {W9 : Nat} {Pre : Pt → Array Value → Prop} {Post : Pt → Array Value → Option Value → Pt → Prop} (hK : Back l R p e below s args y 3 W9 Pre Post)
    {b : Addr} {cellB : Cell} (hcell : T.heap[b]? = some cellB) (hobj : cellB.vm.isStatics = false) (hcls : s.vm.findClass C = some cellB.cls)
    {g : JFrame} (hg : g.method = m) (hsize : g.locals.size = c.maxLocals) {argsL rest : List Value} (hlen : ∀ sig, parseMethodDescriptor y.desc = some sig → argsL.length = sig.parameters.length)
    (hstack : g.stack = argsL.reverse ++ .ref b :: rest) (hW : 2 * g.monitorRoom + (rest.map fun v => v.category).sum ≤ W9) (hdg : decode c.code g.pc = .ok (.invokevirtual index, 3))
    (hpre : ∀ vm₁, s.WarmedH vm₁ → Pre ⟨T.setVm vm₁, locs, cells, slots⟩ (Value.ref b :: argsL).toArray) :
    ∃ (v : Option Value) (vm₁ : Vm) (B : Pt), s.WarmedH vm₁ ∧ Stand p l e R s m args below meth c B.U B.locs B.cells B.slots ∧ Post ⟨T.setVm vm₁, locs, cells, slots⟩ (Value.ref b :: argsL).toArray v B ∧
      ∀ target, Steps p.tables e below (B.U.setTop { g with pc := g.pc + 3, stack := v.toList ++ rest }) target → Steps p.tables e below (T.setTop g) target := by
  obtain ⟨mk, methM, hnamed, hmethM, hstM, habM⟩ := Cond.instanceMethod_spec hinst
  obtain ⟨m8, methM', cM, hn8, hmethM', -, -, -, -, -, -, hsigM⟩ := Cond.codeWith_spec hcode
  cases Option.some.inj (hn8.symm.trans hnamed)
  cases hmethM.symm.trans hmethM'
  obtain ⟨c2, r2, m2, q1, q2, q3, q4, kP, hkP, hkPi⟩ := Cond.selects_spec hsel
  cases hcls.symm.trans q1
  cases (State.methodFound?_of_named hnamed hy).symm.trans q2
  cases hnamed.symm.trans q3
  have hselP : selectMethod e.platform s.vm cellB.cls mk = .method mk := by rw [Launch.admits_selectMethod X.admits]; exact q4
  obtain ⟨vm₁, X₁, hstep₁⟩ := X.invokevirtual hexec hown hlink hnamed hmethM hstM hkP hkPi hy (a := b) (cell := cellB) hcell
    (fun z h => by rw [h] at hobj; cases hobj) hselP hmethM habM hkP hkPi (g := g) hg (argsL := argsL) (rest := rest) (hlen _ hsigM) hstack hdg
  obtain ⟨v, B, X', hpost, hsteps⟩ := hK m meth c ⟨T.setVm vm₁, locs, cells, slots⟩ { g with stack := rest } (.invokevirtual index) mk (Value.ref b :: argsL).toArray X₁ hg hsize hdg hW (X₁.named hnamed) (hpre vm₁ X₁.warmed)
  exact ⟨v, vm₁, B, X₁.warmed, X', hpost, fun target h => hstep₁ _ fun acts => by rw [doInvoke_state]; exact hsteps.trans h⟩
abbrev vx_CVW (R : Room) (s : State) (args : Array Value) (own C : String) (index : Nat) (y : MethodName) (bytes : ByteArray) (maxL : Nat) (ret : Option FieldType) (hh : List (Nat × Nat × Nat × Nat)) (ws : List Cond) (rm : Room) (mc ms n : Nat) : Prop :=
  (rm.cells = mc ∧ rm.slots = ms ∧ rm.frames + 1 ≤ R.frames ∧ 8 + (maxL + 11) + rm.locals ≤ R.locals ∧ (∀ w ∈ ws, ∀ (a' : Array Value) (U : State), s.WarmedH U.vm → w.before a' U = true) ∧ Cond.codeWith y bytes maxL ret hh ∈ ws) ∧
  (Cond.codeWith y bytes maxL ret hh).before args s = true ∧ (Cond.initialized y.cls).before args s = true ∧ (y.cls ≠ "java/lang/invoke/MethodHandle" ∧ y.cls ≠ "java/lang/invoke/VarHandle") ∧
  (∀ sig, parseMethodDescriptor y.desc = some sig → n = sig.parameters.length) ∧ (Cond.methodLink own index y).before args s = true ∧ (Cond.instanceMethod y).before args s = true ∧ (Cond.selects C y y).before args s = true
theorem vx_cwVW {own C : String} {index maxL mc ms : Nat} {y : MethodName} {bytes : ByteArray} {ret : Option FieldType} {hh : List (Nat × Nat × Nat × Nat)} {Ts ws ws' : List Cond} {rm : Room} (n : Nat) (ht : ∀ w ∈ Ts, w.before args s = true) (hT : GoodIn Ts (wsV own index C y ws)) (hw : ws = Cond.codeWith y bytes maxL ret hh :: ws') (hrc : rm.cells = mc) (hrs : rm.slots = ms)
    (hd : y.cls = C ∧ y.cls ≠ "java/lang/invoke/MethodHandle" ∧ y.cls ≠ "java/lang/invoke/VarHandle" ∧ (parseMethodDescriptor y.desc).map (fun d => d.parameters.length) = some n) (hR : rm.frames + 1 ≤ R.frames ∧ 8 + (maxL + 11) + rm.locals ≤ R.locals) :
    vx_CVW R s args own C index y bytes maxL ret hh ws rm mc ms n := by
  obtain ⟨hC, hd⟩ := hd
  subst hC
  have ok : ∀ w ∈ wsV own index y.cls y ws, w.before args s = true := fun w h => ht w (hT w h).1
  have hG : GoodIn Ts ws := fun w h => hT w (by unfold wsV; exact List.mem_append_right _ h)
  have hc : Cond.codeWith y bytes maxL ret hh ∈ ws := by rw [hw]; exact List.mem_cons_self
  refine ⟨⟨hrc, hrs, hR.1, hR.2, pay_in ht hG, hc⟩, ht _ (hG _ hc).1, ok _ (by simp [wsV]), ⟨hd.1, hd.2.1⟩, fun sig h => ?_, ok _ (by simp [wsV]), ok _ (by simp [wsV]), ok _ (by simp [wsV])⟩
  have h2 := hd.2.2
  rw [h] at h2
  exact (Option.some.inj h2).symm
theorem vx_runVW {y : MethodName} {bytes cc : ByteArray} {maxL nL mc ms n index : Nat} {ret : Option FieldType} {hh : List (Nat × Nat × Nat × Nat)} {ws : List Cond} {rm : Room} {Pc : Array Value → State → Prop} {Qc : Array Value → State → Outcome → State → Prop} {free : Addr → Prop} {Ts : List Cond} {own C : String} {b : Addr} {As rest : List Value} {g : JFrame}
    (S : CallFix p m c cc nL s args Ts own) (hM : Met l y ws rm Pc Qc mc ms free) (cw : vx_CVW R s args own C index y bytes maxL ret hh ws rm mc ms n) (hp : PreV s H C b Pc As)
    (hg : g.method = m) (hn : As.length = n) (hsize : g.locals.size = nL) (hstack : g.stack = As.reverse ++ .ref b :: rest) (hW : 2 * g.monitorRoom + (rest.map fun v => v.category).sum ≤ 8) (hdg : decode cc g.pc = .ok (.invokevirtual index, 3)) (hf : cells + mc ≤ R.cells ∧ slots + ms ≤ R.slots) :
    va_Run p l e R s m args below meth c H locs cells slots mc ms g rest (Qc (Value.ref b :: As).toArray) free := by
  obtain ⟨⟨hrc, hrs, hfr, hlo, hws, hcw⟩, hcode, hini, hy, hlen, hl, hin, hse⟩ := cw
  have hK : Back l R p e below s args y 3 8 (PreOf R mc ms Pc) (PostOf Qc mc ms free) := va_backW (hh := hh) (bytes := bytes) (maxL := maxL) (ret := ret) hM hp.1 hrc hrs hfr hlo hws hcw (fun a' U hW => word_at hW (Or.inl (by first | rfl | simp [Cond.onTables, Cond.keeps, Cond.steady])) hini)
  obtain ⟨hx, hb, hml, ho, -⟩ := S
  obtain ⟨-, ⟨cellB, hcB, hoB, hclB⟩, hPc⟩ := hp
  intro T hT X
  obtain ⟨v, vm₁, ⟨U', l2, c2, s2⟩, hW₁, X', ⟨g', mk, t, L, e1, e2, hq, h1, hL, h2, h3⟩, st⟩ := vx_callVW X hx (C := C) (hh := hh) (bytes := bytes) (maxL := maxL) (ret := ret) ho hl hin hse hcode hy hK (by rw [hT]; exact hcB) hoB hclB hg (hsize.trans hml.symm) (argsL := As) (rest := rest) (fun sig h => hn.trans (hlen sig h)) hstack hW (by rw [hb]; exact hdg)
    (fun vm₁ hW₁ => ⟨hf.1, hf.2, hPc (T.setVm vm₁) hT hW₁⟩)
  dsimp only [Pt.U, Pt.locs, Pt.cells, Pt.slots] at X' e1 e2 h1 h2 h3 st
  subst h1; subst h2; subst h3
  exact ⟨v, (T.setVm vm₁).calling g' mk (Value.ref b :: As).toArray, t, U', L, hT, X', hL, e1, e2, hq, st⟩
section
variable {y : MethodName} {bytes cc : ByteArray} {maxL nL mc ms n index : Nat} {ret : Option FieldType} {ws : List Cond} {rm : Room} {Pc : Array Value → State → Prop} {Qc : Array Value → State → Outcome → State → Prop} {XC : String → State → State → Prop} {free : Addr → Prop} {Ts : List Cond} {own C : String} {b : Addr} {As rest : List Value} {g : JFrame}
theorem vx_runVX {hh : List (Nat × Nat × Nat × Nat)} (S : CallFix p m c cc nL s args Ts own) (hM : vx_Met l y ws rm Pc Qc XC mc ms free) (cw : vx_CVW R s args own C index y bytes maxL ret hh ws rm mc ms n) (hp : PreV s H C b Pc As)
    (hg : g.method = m) (hn : As.length = n) (hsize : g.locals.size = nL) (hstack : g.stack = As.reverse ++ .ref b :: rest) (hW : 2 * g.monitorRoom + (rest.map fun v => v.category).sum ≤ 8) (hdg : decode cc g.pc = .ok (.invokevirtual index, 3)) (hf : cells + mc ≤ R.cells ∧ slots + ms ≤ R.slots) :
    vx_Run p l e R s m args below meth c H locs cells slots mc ms g rest (Qc (Value.ref b :: As).toArray) XC free := by
  obtain ⟨⟨hrc, hrs, hfr, hlo, hws, hcw⟩, hcode, hini, hy, hlen, hl, hin, hse⟩ := cw
  have hK : vx_Back l R p e below s args y 3 8 (PreOf R mc ms Pc) (PostOf Qc mc ms free) (vx_Post XC mc ms free) := vx_backW (hh := hh) (bytes := bytes) (maxL := maxL) (ret := ret) hM hp.1 hrc hrs hfr hlo hws hcw (fun a' U hW => word_at hW (Or.inl (by first | rfl | simp [Cond.onTables, Cond.keeps, Cond.steady])) hini)
  obtain ⟨hx, hb, hml, ho, -⟩ := S
  obtain ⟨-, ⟨cellB, hcB, hoB, hclB⟩, hPc⟩ := hp
  intro T hT X
  rcases vx_callVX X hx (C := C) (hh := hh) (bytes := bytes) (maxL := maxL) (ret := ret) ho hl hin hse hcode hy hK (by rw [hT]; exact hcB) hoB hclB hg (hsize.trans hml.symm) (argsL := As) (rest := rest) (fun sig h => hn.trans (hlen sig h)) hstack hW (by rw [hb]; exact hdg)
    (fun vm₁ hW₁ => ⟨hf.1, hf.2, hPc (T.setVm vm₁) hT hW₁⟩) with ⟨v, vm₁, ⟨U', l2, c2, s2⟩, hW₁, X', ⟨g', mk, t, L, e1, e2, hq, h1, hL, h2, h3⟩, st⟩ | ⟨q, vm₁, ⟨U', l2, c2, s2⟩, hW₁, X', ⟨g', mk, t, L, E, ce, e1, e2, hq, hce, hcv, hcl, h1, hL, h2, h3⟩, st⟩
  · dsimp only [Pt.U, Pt.locs, Pt.cells, Pt.slots] at X' e1 e2 h1 h2 h3 st
    subst h1; subst h2; subst h3
    exact Or.inl ⟨v, (T.setVm vm₁).calling g' mk (Value.ref b :: As).toArray, t, U', L, hT, X', hL, e1, e2, hq, st⟩
  · dsimp only [Pt.U, Pt.locs, Pt.cells, Pt.slots] at X' e1 e2 h1 h2 h3 st hcl
    subst h1; subst h2; subst h3
    exact Or.inr ⟨q, (T.setVm vm₁).calling g' mk (Value.ref b :: As).toArray, t, U', L, E, ce, hT, X', hL, e1, e2, hq, hce, hcv, vx_cls hW₁ hcl, st⟩
theorem vx_runSX {hh : List (Nat × Nat × Nat × Nat)} (S : CallFix p m c cc nL s args Ts own) (hM : vx_Met l y ws rm Pc Qc XC mc ms free) (cw : vx_CSW R s args own index y bytes maxL ret hh ws rm mc ms n) (hp : PreS s H Pc As)
    (hg : g.method = m) (hn : As.length = n) (hsize : g.locals.size = nL) (hstack : g.stack = As.reverse ++ rest) (hW : 2 * g.monitorRoom + (rest.map fun v => v.category).sum ≤ 8) (hdg : decode cc g.pc = .ok (.invokestatic index, 3)) (hf : cells + mc ≤ R.cells ∧ slots + ms ≤ R.slots) :
    vx_Run p l e R s m args below meth c H locs cells slots mc ms g rest (Qc As.toArray) XC free := by
  obtain ⟨⟨hrc, hrs, hfr, hlo, hws, hcw⟩, hcode, hini, hy, hlen, hl, hstt⟩ := cw
  have hK : vx_Back l R p e below s args y 3 8 (PreOf R mc ms Pc) (PostOf Qc mc ms free) (vx_Post XC mc ms free) := vx_backW (hh := hh) (bytes := bytes) (maxL := maxL) (ret := ret) hM hp.1 hrc hrs hfr hlo hws hcw (fun a' U hW => word_at hW (Or.inl (by first | rfl | simp [Cond.onTables, Cond.keeps, Cond.steady])) hini)
  obtain ⟨hx, hb, hml, ho, -⟩ := S
  intro T hT X
  rcases vx_callSX X hx (hh := hh) (bytes := bytes) (maxL := maxL) (ret := ret) ho hl hstt hini hcode hy hK hg (hsize.trans hml.symm) (argsL := As) (rest := rest) (fun sig h => hn.trans (hlen sig h)) hstack hW (by rw [hb]; exact hdg)
    (fun vm₁ hW₁ => ⟨hf.1, hf.2, hp.2 (T.setVm vm₁) hT hW₁⟩) with ⟨v, vm₁, ⟨U', l2, c2, s2⟩, hW₁, X', ⟨g', mk, t, L, e1, e2, hq, h1, hL, h2, h3⟩, st⟩ | ⟨q, vm₁, ⟨U', l2, c2, s2⟩, hW₁, X', ⟨g', mk, t, L, E, ce, e1, e2, hq, hce, hcv, hcl, h1, hL, h2, h3⟩, st⟩
  · dsimp only [Pt.U, Pt.locs, Pt.cells, Pt.slots] at X' e1 e2 h1 h2 h3 st
    subst h1; subst h2; subst h3
    exact Or.inl ⟨v, (T.setVm vm₁).calling g' mk As.toArray, t, U', L, hT, X', hL, e1, e2, hq, st⟩
  · dsimp only [Pt.U, Pt.locs, Pt.cells, Pt.slots] at X' e1 e2 h1 h2 h3 st hcl
    subst h1; subst h2; subst h3
    exact Or.inr ⟨q, (T.setVm vm₁).calling g' mk As.toArray, t, U', L, E, ce, hT, X', hL, e1, e2, hq, hce, hcv, vx_cls hW₁ hcl, st⟩
end
end VXH
theorem vx_ofWH {l : Launch} {y : MethodName} {ws ws' : List Cond} {rm : Room} {Pc : Array Value → State → Prop} {Qc : Array Value → State → Outcome → State → Prop} {XC : String → State → State → Prop} {mc ms : Nat} {free : Addr → Prop} {cc : ByteArray} {maxL : Nat} {ret : Option FieldType} {hh : List (Nat × Nat × Nat × Nat)}
    (hy : plainName y.cls = true) (hw : ws = Cond.codeWith y cc maxL ret hh :: ws')
    (body : ∀ p e s m args below meth c s₁, BodyLoose p l y (headSpec ws rm) cc maxL ret e s m args below meth c s₁ → c.maxLocals = maxL → Pc args s →
      W p l e (headSpec ws rm).room s m args below meth c s.heap [] 0 0 (vx_MQ below Qc XC args s mc ms free) (entryFrame m args maxL)) : vx_Met l y ws rm Pc Qc XC mc ms free := by
  refine MetFree.of_bodyS (code := cc) (maxLocals := maxL) (ret := ret) hy ?_ ?_
  · intro args s m h hn
    obtain ⟨m9, meth, c, hn9, h1, h2, h3, h4, -, h5, h6, -⟩ := Cond.codeWith_spec (atoms_spec (ws := ws) h _ (by rw [hw]; exact List.mem_cons_self))
    cases hn.symm.trans hn9
    exact ⟨meth, c, h1, h2, h3, h4, h5, h6⟩
  · intro p e s m args below meth c s₁ B hml hP _
    have hh0 : s₁.heap = s.heap := by rw [B.state]; rfl
    obtain ⟨t, a1, o, b1, b2, b3⟩ := body p e s m args below meth c s₁ B hml hP s₁ hh0 (Stand.of_body B)
    exact ⟨t, o, a1, b1, b2, b3⟩
/-! ===== END ===== -/
end
section
def rn_M : String := "ThreadHall$Mutex"
def tf_M : u_T := fun k => match k with
  | 0 => ("ThreadHall$Mutex", "row", "LThreadHall$Row;", true)
  | 1 => ("ThreadHall$Mutex", "owner", "I", false)
  | _ => ("ThreadHall$Mutex", "often", "I", false)
def ft_M : Nat → FieldType := fun k => match k with
  | 0 => .object "ThreadHall$Row"
  | 1 => .int
  | _ => .int
theorem nm_M : ∀ a, a < 3 → ∀ b, b < 3 → a ≠ b → (tf_M a).2.1 ≠ (tf_M b).2.1 := by decide +kernel
theorem ft_M_ok : ∀ k, k < 3 → parseFieldDescriptor (tf_M k).2.2.1 = some (ft_M k) := by decide +kernel
def rn_Q : String := "ThreadHall$Pairs"
def tf_Q : u_T := fun k => match k with
  | 0 => ("ThreadHall$Pairs", "specials", "[I", true)
  | 1 => ("ThreadHall$Pairs", "values", "[I", true)
  | _ => ("ThreadHall$Pairs", "size", "I", false)
def ft_Q : Nat → FieldType := fun k => match k with
  | 0 => .array .int
  | 1 => .array .int
  | _ => .int
theorem nm_Q : ∀ a, a < 3 → ∀ b, b < 3 → a ≠ b → (tf_Q a).2.1 ≠ (tf_Q b).2.1 := by decide +kernel
theorem ft_Q_ok : ∀ k, k < 3 → parseFieldDescriptor (tf_Q k).2.2.1 = some (ft_Q k) := by decide +kernel
def rn_P : String := "ThreadHall$Program"
def tf_P : u_T := fun k => match k with
  | 0 => ("ThreadHall$Program", "ops", "[I", true)
  | 1 => ("ThreadHall$Program", "firsts", "[I", true)
  | 2 => ("ThreadHall$Program", "seconds", "[I", true)
  | _ => ("ThreadHall$Program", "size", "I", false)
def ft_P : Nat → FieldType := fun k => match k with
  | 0 => .array .int
  | 1 => .array .int
  | 2 => .array .int
  | _ => .int
theorem nm_P : ∀ a, a < 4 → ∀ b, b < 4 → a ≠ b → (tf_P a).2.1 ≠ (tf_P b).2.1 := by decide +kernel
theorem ft_P_ok : ∀ k, k < 4 → parseFieldDescriptor (tf_P k).2.2.1 = some (ft_P k) := by decide +kernel
def rn_R : String := "ThreadHall$Row"
def tf_R : u_T := fun k => match k with
  | 0 => ("ThreadHall$Row", "threads", "[I", true)
  | _ => ("ThreadHall$Row", "size", "I", false)
def ft_R : Nat → FieldType := fun k => match k with
  | 0 => .array .int
  | _ => .int
theorem nm_R : ∀ a, a < 2 → ∀ b, b < 2 → a ≠ b → (tf_R a).2.1 ≠ (tf_R b).2.1 := by decide +kernel
theorem ft_R_ok : ∀ k, k < 2 → parseFieldDescriptor (tf_R k).2.2.1 = some (ft_R k) := by decide +kernel
def rn_S : String := "ThreadHall$Strand"
def tf_S : u_T := fun k => match k with
  | 0 => ("ThreadHall$Strand", "number", "I", true)
  | 1 => ("ThreadHall$Strand", "program", "LThreadHall$Program;", true)
  | 2 => ("ThreadHall$Strand", "bindings", "LThreadHall$Pairs;", true)
  | 3 => ("ThreadHall$Strand", "hooks", "LThreadHall$Pairs;", true)
  | 4 => ("ThreadHall$Strand", "joiners", "LThreadHall$Row;", true)
  | 5 => ("ThreadHall$Strand", "state", "I", false)
  | 6 => ("ThreadHall$Strand", "place", "I", false)
  | 7 => ("ThreadHall$Strand", "result", "I", false)
  | 8 => ("ThreadHall$Strand", "handler", "I", false)
  | 9 => ("ThreadHall$Strand", "done", "I", false)
  | 10 => ("ThreadHall$Strand", "starts", "I", false)
  | 11 => ("ThreadHall$Strand", "marked", "Z", false)
  | 12 => ("ThreadHall$Strand", "thrown", "Z", false)
  | 13 => ("ThreadHall$Strand", "condition", "I", false)
  | 14 => ("ThreadHall$Strand", "wantedLock", "I", false)
  | 15 => ("ThreadHall$Strand", "wantedOften", "I", false)
  | 16 => ("ThreadHall$Strand", "joined", "I", false)
  | _ => ("ThreadHall$Strand", "joinSpecial", "I", false)
def ft_S : Nat → FieldType := fun k => match k with
  | 0 => .int
  | 1 => .object "ThreadHall$Program"
  | 2 => .object "ThreadHall$Pairs"
  | 3 => .object "ThreadHall$Pairs"
  | 4 => .object "ThreadHall$Row"
  | 5 => .int
  | 6 => .int
  | 7 => .int
  | 8 => .int
  | 9 => .int
  | 10 => .int
  | 11 => .boolean
  | 12 => .boolean
  | 13 => .int
  | 14 => .int
  | 15 => .int
  | 16 => .int
  | _ => .int
theorem nm_S : ∀ a, a < 18 → ∀ b, b < 18 → a ≠ b → (tf_S a).2.1 ≠ (tf_S b).2.1 := by decide +kernel
theorem ft_S_ok : ∀ k, k < 18 → parseFieldDescriptor (tf_S k).2.2.1 = some (ft_S k) := by decide +kernel
def rn_H : String := "ThreadHall"
def tf_H : u_T := fun k => match k with
  | 0 => ("ThreadHall", "strands", "[LThreadHall$Strand;", true)
  | 1 => ("ThreadHall", "mutexes", "[LThreadHall$Mutex;", true)
  | 2 => ("ThreadHall", "conditions", "[LThreadHall$Row;", true)
  | 3 => ("ThreadHall", "globals", "[I", true)
  | 4 => ("ThreadHall", "saidInts", "[I", true)
  | 5 => ("ThreadHall", "saidCount", "I", false)
  | 6 => ("ThreadHall", "sliceLength", "I", false)
  | 7 => ("ThreadHall", "lastTurn", "I", false)
  | 8 => ("ThreadHall", "turns", "I", false)
  | 9 => ("ThreadHall", "instructions", "I", false)
  | 10 => ("ThreadHall", "errors", "I", false)
  | _ => ("ThreadHall", "endings", "I", false)
def ft_H : Nat → FieldType := fun k => match k with
  | 0 => .array (.object "ThreadHall$Strand")
  | 1 => .array (.object "ThreadHall$Mutex")
  | 2 => .array (.object "ThreadHall$Row")
  | 3 => .array .int
  | 4 => .array .int
  | 5 => .int
  | 6 => .int
  | 7 => .int
  | 8 => .int
  | 9 => .int
  | 10 => .int
  | _ => .int
theorem nm_H : ∀ a, a < 12 → ∀ b, b < 12 → a ≠ b → (tf_H a).2.1 ≠ (tf_H b).2.1 := by decide +kernel
theorem ft_H_ok : ∀ k, k < 12 → parseFieldDescriptor (tf_H k).2.2.1 = some (ft_H k) := by decide +kernel
def rn_O : String := "ThreadHallModel"
def tf_O : u_T := fun k => match k with
  | 0 => ("ThreadHallModel", "ops", "[I", true)
  | 1 => ("ThreadHallModel", "as", "[I", true)
  | 2 => ("ThreadHallModel", "bs", "[I", true)
  | 3 => ("ThreadHallModel", "lengths", "[I", true)
  | 4 => ("ThreadHallModel", "globals", "[I", true)
  | 5 => ("ThreadHallModel", "boundSpecial", "[I", true)
  | 6 => ("ThreadHallModel", "boundValue", "[I", true)
  | 7 => ("ThreadHallModel", "bindings", "[I", true)
  | 8 => ("ThreadHallModel", "hookSpecial", "[I", true)
  | 9 => ("ThreadHallModel", "hookValue", "[I", true)
  | 10 => ("ThreadHallModel", "hooks", "[I", true)
  | 11 => ("ThreadHallModel", "state", "[I", true)
  | 12 => ("ThreadHallModel", "place", "[I", true)
  | 13 => ("ThreadHallModel", "result", "[I", true)
  | 14 => ("ThreadHallModel", "handler", "[I", true)
  | 15 => ("ThreadHallModel", "done", "[I", true)
  | 16 => ("ThreadHallModel", "started", "[I", true)
  | 17 => ("ThreadHallModel", "wantedLock", "[I", true)
  | 18 => ("ThreadHallModel", "wantedTimes", "[I", true)
  | 19 => ("ThreadHallModel", "target", "[I", true)
  | 20 => ("ThreadHallModel", "into", "[I", true)
  | 21 => ("ThreadHallModel", "marked", "[Z", true)
  | 22 => ("ThreadHallModel", "thrownLater", "[Z", true)
  | 23 => ("ThreadHallModel", "owner", "[I", true)
  | 24 => ("ThreadHallModel", "times", "[I", true)
  | 25 => ("ThreadHallModel", "lockRow", "[I", true)
  | 26 => ("ThreadHallModel", "lockMany", "[I", true)
  | 27 => ("ThreadHallModel", "waitRow", "[I", true)
  | 28 => ("ThreadHallModel", "waitMany", "[I", true)
  | 29 => ("ThreadHallModel", "joinRow", "[I", true)
  | 30 => ("ThreadHallModel", "joinMany", "[I", true)
  | 31 => ("ThreadHallModel", "said", "[I", true)
  | 32 => ("ThreadHallModel", "counts", "[I", true)
  | 33 => ("ThreadHallModel", "slice", "I", false)
  | 34 => ("ThreadHallModel", "thrown", "I", false)
  | _ => ("ThreadHallModel", "passes", "Z", false)
def ft_O : Nat → FieldType := fun k => match k with
  | 0 => .array .int
  | 1 => .array .int
  | 2 => .array .int
  | 3 => .array .int
  | 4 => .array .int
  | 5 => .array .int
  | 6 => .array .int
  | 7 => .array .int
  | 8 => .array .int
  | 9 => .array .int
  | 10 => .array .int
  | 11 => .array .int
  | 12 => .array .int
  | 13 => .array .int
  | 14 => .array .int
  | 15 => .array .int
  | 16 => .array .int
  | 17 => .array .int
  | 18 => .array .int
  | 19 => .array .int
  | 20 => .array .int
  | 21 => .array .boolean
  | 22 => .array .boolean
  | 23 => .array .int
  | 24 => .array .int
  | 25 => .array .int
  | 26 => .array .int
  | 27 => .array .int
  | 28 => .array .int
  | 29 => .array .int
  | 30 => .array .int
  | 31 => .array .int
  | 32 => .array .int
  | 33 => .int
  | 34 => .int
  | _ => .boolean
theorem nm_O : ∀ a, a < 36 → ∀ b, b < 36 → a ≠ b → (tf_O a).2.1 ≠ (tf_O b).2.1 := by decide +kernel
theorem ft_O_ok : ∀ k, k < 36 → parseFieldDescriptor (tf_O k).2.2.1 = some (ft_O k) := by decide +kernel
def rn_L : String := "ThreadHallLaw"
abbrev cb_H_init : ByteArray := prog_1_method_1_code
def yn_H_init : MethodName := ⟨rn_H, "<init>", "()V"⟩
abbrev cb_S_init : ByteArray := prog_6_method_1_code
def yn_S_init : MethodName := ⟨rn_S, "<init>", "(I)V"⟩
abbrev cb_P_init : ByteArray := prog_4_method_1_code
def yn_P_init : MethodName := ⟨rn_P, "<init>", "()V"⟩
abbrev cb_Q_init : ByteArray := prog_3_method_1_code
def yn_Q_init : MethodName := ⟨rn_Q, "<init>", "(I)V"⟩
abbrev cb_R_init : ByteArray := prog_5_method_1_code
def yn_R_init : MethodName := ⟨rn_R, "<init>", "()V"⟩
abbrev cb_M_init : ByteArray := prog_2_method_1_code
def yn_M_init : MethodName := ⟨rn_M, "<init>", "()V"⟩
abbrev cb_L_add : ByteArray := method_3_code
def yn_L_add : MethodName := ⟨rn_L, "add", "(LThreadHall;IIII[J)I"⟩
abbrev cb_H_add : ByteArray := prog_1_method_2_code
def yn_H_add : MethodName := ⟨rn_H, "add", "(IIII)I"⟩
abbrev cb_H_requireBelow : ByteArray := prog_1_method_15_code
def yn_H_requireBelow : MethodName := ⟨rn_H, "requireBelow", "(II)V"⟩
abbrev cb_H_requireBetween : ByteArray := prog_1_method_14_code
def yn_H_requireBetween : MethodName := ⟨rn_H, "requireBetween", "(III)V"⟩
abbrev cb_H_requireOperand : ByteArray := prog_1_method_16_code
def yn_H_requireOperand : MethodName := ⟨rn_H, "requireOperand", "(II)V"⟩
abbrev cb_H_requireNotAlive : ByteArray := prog_1_method_17_code
def yn_H_requireNotAlive : MethodName := ⟨rn_H, "requireNotAlive", "(LThreadHall$Strand;)V"⟩
abbrev cb_S_isAlive : ByteArray := prog_6_method_2_code
def yn_S_isAlive : MethodName := ⟨rn_S, "isAlive", "()Z"⟩
abbrev cb_P_append : ByteArray := prog_4_method_2_code
def yn_P_append : MethodName := ⟨rn_P, "append", "(III)V"⟩
abbrev cb_L_clear : ByteArray := method_4_code
def yn_L_clear : MethodName := ⟨rn_L, "clear", "(LThreadHall;I[J)I"⟩
abbrev cb_H_clear : ByteArray := prog_1_method_3_code
def yn_H_clear : MethodName := ⟨rn_H, "clear", "(I)I"⟩
abbrev cb_L_start : ByteArray := method_5_code
def yn_L_start : MethodName := ⟨rn_L, "start", "(LThreadHall;I[J)I"⟩
abbrev cb_H_start : ByteArray := prog_1_method_4_code
def yn_H_start : MethodName := ⟨rn_H, "start", "(I)I"⟩
abbrev cb_S_beginAnew : ByteArray := prog_6_method_3_code
def yn_S_beginAnew : MethodName := ⟨rn_S, "beginAnew", "()V"⟩
abbrev cb_S_forgetAll : ByteArray := prog_6_method_4_code
def yn_S_forgetAll : MethodName := ⟨rn_S, "forgetAll", "()V"⟩
abbrev cb_S_forgetInterrupt : ByteArray := prog_6_method_5_code
def yn_S_forgetInterrupt : MethodName := ⟨rn_S, "forgetInterrupt", "()V"⟩
abbrev cb_L_run : ByteArray := method_6_code
def yn_L_run : MethodName := ⟨rn_L, "run", "(LThreadHall;I[J)I"⟩
abbrev cb_H_run : ByteArray := prog_1_method_5_code
def yn_H_run : MethodName := ⟨rn_H, "run", "(I)I"⟩
abbrev cb_H_nextReady : ByteArray := prog_1_method_20_code
def yn_H_nextReady : MethodName := ⟨rn_H, "nextReady", "()I"⟩
abbrev cb_H_takeTurn : ByteArray := prog_1_method_21_code
def yn_H_takeTurn : MethodName := ⟨rn_H, "takeTurn", "(LThreadHall$Strand;)V"⟩
abbrev cb_H_raise : ByteArray := prog_1_method_41_code
def yn_H_raise : MethodName := ⟨rn_H, "raise", "(LThreadHall$Strand;I)V"⟩
abbrev cb_H_finish : ByteArray := prog_1_method_42_code
def yn_H_finish : MethodName := ⟨rn_H, "finish", "(LThreadHall$Strand;I)V"⟩
abbrev cb_H_runHooks : ByteArray := prog_1_method_43_code
def yn_H_runHooks : MethodName := ⟨rn_H, "runHooks", "(LThreadHall$Strand;)V"⟩
abbrev cb_H_read : ByteArray := prog_1_method_24_code
def yn_H_read : MethodName := ⟨rn_H, "read", "(LThreadHall$Strand;I)I"⟩
abbrev cb_Q_latest : ByteArray := prog_3_method_3_code
def yn_Q_latest : MethodName := ⟨rn_Q, "latest", "(I)I"⟩
abbrev cb_H_write : ByteArray := prog_1_method_25_code
def yn_H_write : MethodName := ⟨rn_H, "write", "(LThreadHall$Strand;II)V"⟩
abbrev cb_H_passOn : ByteArray := prog_1_method_34_code
def yn_H_passOn : MethodName := ⟨rn_H, "passOn", "(LThreadHall$Mutex;)V"⟩
abbrev cb_R_takeFirst : ByteArray := prog_5_method_3_code
def yn_R_takeFirst : MethodName := ⟨rn_R, "takeFirst", "()I"⟩
abbrev cb_R_takeOut : ByteArray := prog_5_method_4_code
def yn_R_takeOut : MethodName := ⟨rn_R, "takeOut", "(I)V"⟩
abbrev cb_M_give : ByteArray := prog_2_method_3_code
def yn_M_give : MethodName := ⟨rn_M, "give", "(II)V"⟩
abbrev cb_H_wakeJoiners : ByteArray := prog_1_method_44_code
def yn_H_wakeJoiners : MethodName := ⟨rn_H, "wakeJoiners", "(LThreadHall$Strand;)V"⟩
abbrev cb_H_countInstruction : ByteArray := prog_1_method_22_code
def yn_H_countInstruction : MethodName := ⟨rn_H, "countInstruction", "(LThreadHall$Strand;)V"⟩
abbrev cb_H_perform : ByteArray := prog_1_method_23_code
def yn_H_perform : MethodName := ⟨rn_H, "perform", "(LThreadHall$Strand;III)I"⟩
abbrev cb_H_bind : ByteArray := prog_1_method_26_code
def yn_H_bind : MethodName := ⟨rn_H, "bind", "(LThreadHall$Strand;II)I"⟩
abbrev cb_Q_isFull : ByteArray := prog_3_method_2_code
def yn_Q_isFull : MethodName := ⟨rn_Q, "isFull", "()Z"⟩
abbrev cb_Q_append : ByteArray := prog_3_method_4_code
def yn_Q_append : MethodName := ⟨rn_Q, "append", "(II)V"⟩
abbrev cb_H_unbind : ByteArray := prog_1_method_27_code
def yn_H_unbind : MethodName := ⟨rn_H, "unbind", "(LThreadHall$Strand;I)I"⟩
abbrev cb_Q_takeOut : ByteArray := prog_3_method_5_code
def yn_Q_takeOut : MethodName := ⟨rn_Q, "takeOut", "(I)V"⟩
abbrev cb_H_goFor : ByteArray := prog_1_method_31_code
def yn_H_goFor : MethodName := ⟨rn_H, "goFor", "(LThreadHall$Strand;II)V"⟩
abbrev cb_M_isOpenTo : ByteArray := prog_2_method_2_code
def yn_M_isOpenTo : MethodName := ⟨rn_M, "isOpenTo", "(I)Z"⟩
abbrev cb_R_append : ByteArray := prog_5_method_2_code
def yn_R_append : MethodName := ⟨rn_R, "append", "(I)V"⟩
abbrev cb_H_unlock : ByteArray := prog_1_method_32_code
def yn_H_unlock : MethodName := ⟨rn_H, "unlock", "(LThreadHall$Strand;I)I"⟩
abbrev cb_H_tryLock : ByteArray := prog_1_method_33_code
def yn_H_tryLock : MethodName := ⟨rn_H, "tryLock", "(LThreadHall$Strand;II)V"⟩
abbrev cb_H_beginWait : ByteArray := prog_1_method_35_code
def yn_H_beginWait : MethodName := ⟨rn_H, "beginWait", "(LThreadHall$Strand;II)I"⟩
abbrev cb_H_tellFirst : ByteArray := prog_1_method_36_code
def yn_H_tellFirst : MethodName := ⟨rn_H, "tellFirst", "(LThreadHall$Row;)V"⟩
abbrev cb_H_tellAll : ByteArray := prog_1_method_37_code
def yn_H_tellAll : MethodName := ⟨rn_H, "tellAll", "(LThreadHall$Row;)V"⟩
abbrev cb_H_startOther : ByteArray := prog_1_method_38_code
def yn_H_startOther : MethodName := ⟨rn_H, "startOther", "(LThreadHall$Strand;)I"⟩
abbrev cb_H_beginJoin : ByteArray := prog_1_method_39_code
def yn_H_beginJoin : MethodName := ⟨rn_H, "beginJoin", "(LThreadHall$Strand;II)I"⟩
abbrev cb_H_interruptAlive : ByteArray := prog_1_method_40_code
def yn_H_interruptAlive : MethodName := ⟨rn_H, "interruptAlive", "(LThreadHall$Strand;)V"⟩
abbrev cb_H_hook : ByteArray := prog_1_method_28_code
def yn_H_hook : MethodName := ⟨rn_H, "hook", "(LThreadHall$Strand;II)I"⟩
abbrev cb_H_jumpIfZero : ByteArray := prog_1_method_29_code
def yn_H_jumpIfZero : MethodName := ⟨rn_H, "jumpIfZero", "(LThreadHall$Strand;II)V"⟩
abbrev cb_H_keepSaid : ByteArray := prog_1_method_30_code
def yn_H_keepSaid : MethodName := ⟨rn_H, "keepSaid", "(I)V"⟩
abbrev cb_L_interrupt : ByteArray := method_7_code
def yn_L_interrupt : MethodName := ⟨rn_L, "interrupt", "(LThreadHall;I[J)I"⟩
abbrev cb_H_interrupt : ByteArray := prog_1_method_6_code
def yn_H_interrupt : MethodName := ⟨rn_H, "interrupt", "(I)I"⟩
abbrev cb_L_slice : ByteArray := method_8_code
def yn_L_slice : MethodName := ⟨rn_L, "slice", "(LThreadHall;I[J)I"⟩
abbrev cb_H_slice : ByteArray := prog_1_method_7_code
def yn_H_slice : MethodName := ⟨rn_H, "slice", "(I)I"⟩
abbrev cb_L_global : ByteArray := method_9_code
def yn_L_global : MethodName := ⟨rn_L, "global", "(LThreadHall;II[J)I"⟩
abbrev cb_H_global : ByteArray := prog_1_method_8_code
def yn_H_global : MethodName := ⟨rn_H, "global", "(II)I"⟩
abbrev cb_L_special : ByteArray := method_10_code
def yn_L_special : MethodName := ⟨rn_L, "special", "(LThreadHall;II[J)I"⟩
abbrev cb_H_special : ByteArray := prog_1_method_9_code
def yn_H_special : MethodName := ⟨rn_H, "special", "(II)I"⟩
abbrev cb_L_look : ByteArray := method_11_code
def yn_L_look : MethodName := ⟨rn_L, "look", "(LThreadHall;II[J)I"⟩
abbrev cb_H_look : ByteArray := prog_1_method_10_code
def yn_H_look : MethodName := ⟨rn_H, "look", "(II)I"⟩
abbrev cb_L_lock : ByteArray := method_12_code
def yn_L_lock : MethodName := ⟨rn_L, "lock", "(LThreadHall;II[J)I"⟩
abbrev cb_H_lock : ByteArray := prog_1_method_11_code
def yn_H_lock : MethodName := ⟨rn_H, "lock", "(II)I"⟩
abbrev cb_L_said : ByteArray := method_13_code
def yn_L_said : MethodName := ⟨rn_L, "said", "(LThreadHall;I[J)I"⟩
abbrev cb_H_said : ByteArray := prog_1_method_12_code
def yn_H_said : MethodName := ⟨rn_H, "said", "(I)I"⟩
abbrev cb_L_count : ByteArray := method_14_code
def yn_L_count : MethodName := ⟨rn_L, "count", "(LThreadHall;I[J)I"⟩
abbrev cb_H_count : ByteArray := prog_1_method_13_code
def yn_H_count : MethodName := ⟨rn_H, "count", "(I)I"⟩
abbrev cb_H_aliveCount : ByteArray := prog_1_method_18_code
def yn_H_aliveCount : MethodName := ⟨rn_H, "aliveCount", "()I"⟩
abbrev cb_H_readyCount : ByteArray := prog_1_method_19_code
def yn_H_readyCount : MethodName := ⟨rn_H, "readyCount", "()I"⟩
abbrev cb_O_init : ByteArray := prog_8_method_1_code
def yn_O_init : MethodName := ⟨rn_O, "<init>", "()V"⟩
abbrev cb_O_thrown : ByteArray := prog_8_method_4_code
def yn_O_thrown : MethodName := ⟨rn_O, "thrown", "()I"⟩
abbrev cb_O_add : ByteArray := prog_8_method_7_code
def yn_O_add : MethodName := ⟨rn_O, "add", "(IIII)I"⟩
abbrev cb_O_is : ByteArray := prog_8_method_2_code
def yn_O_is : MethodName := ⟨rn_O, "is", "(III)Z"⟩
abbrev cb_O_fits : ByteArray := prog_8_method_6_code
def yn_O_fits : MethodName := ⟨rn_O, "fits", "(III)Z"⟩
abbrev cb_O_refuse : ByteArray := prog_8_method_3_code
def yn_O_refuse : MethodName := ⟨rn_O, "refuse", "(I)I"⟩
abbrev cb_O_alive : ByteArray := prog_8_method_5_code
def yn_O_alive : MethodName := ⟨rn_O, "alive", "(I)Z"⟩
abbrev cb_O_clear : ByteArray := prog_8_method_8_code
def yn_O_clear : MethodName := ⟨rn_O, "clear", "(I)I"⟩
abbrev cb_O_run : ByteArray := prog_8_method_28_code
def yn_O_run : MethodName := ⟨rn_O, "run", "(I)I"⟩
abbrev cb_O_ready : ByteArray := prog_8_method_27_code
def yn_O_ready : MethodName := ⟨rn_O, "ready", "()I"⟩
abbrev cb_O_turn : ByteArray := prog_8_method_29_code
def yn_O_turn : MethodName := ⟨rn_O, "turn", "(I)V"⟩
abbrev cb_O_error : ByteArray := prog_8_method_14_code
def yn_O_error : MethodName := ⟨rn_O, "error", "(II)V"⟩
abbrev cb_O_end : ByteArray := prog_8_method_13_code
def yn_O_end : MethodName := ⟨rn_O, "end", "(II)V"⟩
abbrev cb_O_get : ByteArray := prog_8_method_10_code
def yn_O_get : MethodName := ⟨rn_O, "get", "(II)I"⟩
abbrev cb_O_bound : ByteArray := prog_8_method_9_code
def yn_O_bound : MethodName := ⟨rn_O, "bound", "(II)I"⟩
abbrev cb_O_put : ByteArray := prog_8_method_11_code
def yn_O_put : MethodName := ⟨rn_O, "put", "(III)V"⟩
abbrev cb_O_pass : ByteArray := prog_8_method_15_code
def yn_O_pass : MethodName := ⟨rn_O, "pass", "(I)V"⟩
abbrev cb_O_act : ByteArray := prog_8_method_26_code
def yn_O_act : MethodName := ⟨rn_O, "act", "(IIII)V"⟩
abbrev cb_O_bind : ByteArray := prog_8_method_23_code
def yn_O_bind : MethodName := ⟨rn_O, "bind", "(III)V"⟩
abbrev cb_O_unbind : ByteArray := prog_8_method_24_code
def yn_O_unbind : MethodName := ⟨rn_O, "unbind", "(II)V"⟩
abbrev cb_O_locks : ByteArray := prog_8_method_25_code
def yn_O_locks : MethodName := ⟨rn_O, "locks", "(IIII)V"⟩
abbrev cb_O_goFor : ByteArray := prog_8_method_16_code
def yn_O_goFor : MethodName := ⟨rn_O, "goFor", "(III)V"⟩
abbrev cb_O_await : ByteArray := prog_8_method_21_code
def yn_O_await : MethodName := ⟨rn_O, "await", "(III)V"⟩
abbrev cb_O_isStopped : ByteArray := prog_8_method_20_code
def yn_O_isStopped : MethodName := ⟨rn_O, "isStopped", "(I)Z"⟩
abbrev cb_O_leaveWait : ByteArray := prog_8_method_17_code
def yn_O_leaveWait : MethodName := ⟨rn_O, "leaveWait", "(I)V"⟩
abbrev cb_O_begin : ByteArray := prog_8_method_12_code
def yn_O_begin : MethodName := ⟨rn_O, "begin", "(I)Z"⟩
abbrev cb_O_join : ByteArray := prog_8_method_22_code
def yn_O_join : MethodName := ⟨rn_O, "join", "(III)V"⟩
abbrev cb_O_interrupted : ByteArray := prog_8_method_19_code
def yn_O_interrupted : MethodName := ⟨rn_O, "interrupted", "(I)Z"⟩
abbrev cb_O_leaveJoin : ByteArray := prog_8_method_18_code
def yn_O_leaveJoin : MethodName := ⟨rn_O, "leaveJoin", "(I)V"⟩
abbrev cb_O_start : ByteArray := prog_8_method_30_code
def yn_O_start : MethodName := ⟨rn_O, "start", "(I)I"⟩
abbrev cb_O_interrupt : ByteArray := prog_8_method_31_code
def yn_O_interrupt : MethodName := ⟨rn_O, "interrupt", "(I)I"⟩
abbrev cb_O_slice : ByteArray := prog_8_method_32_code
def yn_O_slice : MethodName := ⟨rn_O, "slice", "(I)I"⟩
abbrev cb_O_global : ByteArray := prog_8_method_33_code
def yn_O_global : MethodName := ⟨rn_O, "global", "(II)I"⟩
abbrev cb_O_special : ByteArray := prog_8_method_34_code
def yn_O_special : MethodName := ⟨rn_O, "special", "(II)I"⟩
abbrev cb_O_look : ByteArray := prog_8_method_35_code
def yn_O_look : MethodName := ⟨rn_O, "look", "(II)I"⟩
abbrev cb_O_lock : ByteArray := prog_8_method_36_code
def yn_O_lock : MethodName := ⟨rn_O, "lock", "(II)I"⟩
abbrev cb_O_said : ByteArray := prog_8_method_37_code
def yn_O_said : MethodName := ⟨rn_O, "said", "(I)I"⟩
abbrev cb_O_count : ByteArray := prog_8_method_38_code
def yn_O_count : MethodName := ⟨rn_O, "count", "(I)I"⟩
end
section
/-! ===== the abstract memory: a cell's name is (tag, number); ints, references, lengths; how many cells of a tag there are ===== -/
abbrev th_V : Type := Int32 ⊕ Option (Nat × Nat)
abbrev th_I : Type := Nat → Nat → Nat → Int32
abbrev th_R : Type := Nat → Nat → Nat → Option (Nat × Nat)
abbrev th_M : Type := (Nat → Nat) × th_I × th_R × (Nat → Nat → Nat) × Nat
abbrev th_A : Type := Nat → Nat → Nat
def th_IAE : String := "java/lang/IllegalArgumentException"
def th_ISE : String := "java/lang/IllegalStateException"
def th_IOB : String := "java/lang/IndexOutOfBoundsException"
def th_lp (j : Nat) : Nat := if j % 2 = 0 then 12 else 4
def th_Cl : List vw_C := [(rn_M, tf_M, 3), (rn_Q, tf_Q, 3), (rn_P, tf_P, 4), (rn_R, tf_R, 2), (rn_S, tf_S, 18), (rn_H, tf_H, 12), (rn_O, tf_O, 36)]
/-- a tag's kind: an object of the list th_Cl, an array of ints (or truth values), of references, of longs; array types by number -/
def th_kd : Nat → Nat × Nat
  | 0 => (0, 5)
  | 1 => (2, 2)
  | 2 => (2, 3)
  | 3 => (2, 4)
  | 6 => (0, 4)
  | 7 => (0, 2)
  | 11 => (0, 1)
  | 14 => (0, 3)
  | 16 => (0, 0)
  | 17 => (3, 5)
  | 20 => (0, 6)
  | 42 => (1, 1)
  | 43 => (1, 1)
  | _ => (1, 0)
def th_ty (cA : Nat → ClassId) : List (ClassId × FieldType) := [(cA 0, .int), (cA 1, .boolean), (cA 2, .object "ThreadHall$Strand"), (cA 3, .object "ThreadHall$Mutex"), (cA 4, .object "ThreadHall$Row"), (cA 5, .long)]
/-- how many cells a tag has, when all is made -/
def th_cn : Nat → Nat
  | 6 => 5
  | 7 => 5
  | 8 => 5
  | 9 => 5
  | 10 => 5
  | 11 => 10
  | 12 => 10
  | 13 => 10
  | 14 => 11
  | 15 => 11
  | 16 => 3
  | 18 => 0
  | 19 => 0
  | t => if t < 54 then 1 else 0
/-- which slots hold references -/
def th_fr : Nat → Nat → Bool
  | 0, k => Nat.blt k 5
  | 6, k => Nat.blt 0 k && Nat.blt k 5
  | 7, k => Nat.blt k 3
  | 11, k => Nat.blt k 2
  | 14, k => Nat.blt k 1
  | 16, k => Nat.blt k 1
  | 20, k => Nat.blt k 33
  | _, _ => false
def th_P0 : Nat → Nat → Nat → Option (Nat × Nat)
  | 0, _, k => some (k + 1, 0)
  | 1, _, k => some (6, k)
  | 2, _, k => some (16, k)
  | 3, _, k => some (14, 8 + k)
  | 6, i, 1 => some (7, i)
  | 6, i, 2 => some (11, 2 * i)
  | 6, i, 3 => some (11, 2 * i + 1)
  | 6, i, _ => some (14, i)
  | 7, i, k => some (8 + k, i)
  | 11, i, k => some (12 + k, i)
  | 14, i, _ => some (15, i)
  | 16, i, _ => some (14, 5 + i)
  | 20, _, k => some (21 + k, 0)
  | _, _, _ => none
def th_L0 : Nat → Nat → Nat
  | 1, _ => 5
  | 2, _ => 3
  | 3, _ => 3
  | 4, _ => 4
  | 5, _ => 40
  | 8, _ => 24
  | 9, _ => 24
  | 10, _ => 24
  | 12, j => th_lp j
  | 13, j => th_lp j
  | 15, _ => 5
  | 17, _ => 1
  | 21, _ => 120
  | 22, _ => 120
  | 23, _ => 120
  | 24, _ => 5
  | 25, _ => 4
  | 26, _ => 60
  | 27, _ => 60
  | 28, _ => 5
  | 29, _ => 20
  | 30, _ => 20
  | 31, _ => 5
  | 32, _ => 5
  | 33, _ => 5
  | 34, _ => 5
  | 35, _ => 5
  | 36, _ => 5
  | 37, _ => 5
  | 38, _ => 5
  | 39, _ => 5
  | 40, _ => 5
  | 41, _ => 5
  | 42, _ => 5
  | 43, _ => 5
  | 44, _ => 3
  | 45, _ => 3
  | 46, _ => 15
  | 47, _ => 3
  | 48, _ => 15
  | 49, _ => 3
  | 50, _ => 25
  | 51, _ => 5
  | 52, _ => 40
  | 53, _ => 8
  | _, _ => 0
/-- where a cell lies behind the first one: the order of making -/
def th_ad : Nat → Nat → Nat
  | 0, _ => 0
  | 1, _ => 1
  | 6, i => 2 + 13 * i
  | 7, i => 3 + 13 * i
  | 8, i => 4 + 13 * i
  | 9, i => 5 + 13 * i
  | 10, i => 6 + 13 * i
  | 11, j => 7 + 13 * (j / 2) + 3 * (j % 2)
  | 12, j => 8 + 13 * (j / 2) + 3 * (j % 2)
  | 13, j => 9 + 13 * (j / 2) + 3 * (j % 2)
  | 14, r => if r < 5 then 13 + 13 * r else if r < 8 then 69 + 3 * (r - 5) else 78 + 2 * (r - 8)
  | 15, r => if r < 5 then 14 + 13 * r else if r < 8 then 70 + 3 * (r - 5) else 79 + 2 * (r - 8)
  | 2, _ => 67
  | 16, m => 68 + 3 * m
  | 3, _ => 77
  | 4, _ => 84
  | 5, _ => 85
  | 17, _ => 120
  | t, _ => 66 + t
abbrev th_m (I : th_I) : th_M := (th_cn, I, th_P0, th_L0, 0)
def th_s91 : String × String × Nat × List Int32 := ("ThreadHall", "FIRST_VALUES", 91, [4, 4, 4, 4, 4, 3, 3, 3, 3, 3, 3, 5, 5, 5, 25, 4, 25, 4, 4, 4, 0])
def th_s92 : String × String × Nat × List Int32 := ("ThreadHall", "SECOND_VALUES", 92, [0, 0, 4, 0, 0, 0, 0, 4, 3, 0, 0, 0, 4, 0, 0, 0, 0, 25, 0, 0, 0])
def th_SA : List (String × String × Nat × List Int32) := [th_s91, th_s92]
theorem th_s91_in : th_s91 ∈ th_SA := List.mem_cons_self
theorem th_s92_in : th_s92 ∈ th_SA := List.mem_cons_of_mem _ List.mem_cons_self
def th_AO : List String := ["ThreadHall$Strand", "ThreadHall$Mutex", "ThreadHall$Row"]
def th_NC : List (String × String) := [(th_ISE, th_IAE), (th_IOB, th_IAE), (th_IOB, th_ISE)]
def th_nk : Cond → Bool
  | .castable _ _ => true
  | .declares _ => true
  | .methodLinkNest _ _ _ _ => true
  | _ => false
def th_B : List Cond := lw_tbl.filter goodWord
def th_NB : List Cond := lw_tbl.filter th_nk
theorem th_nw_moved {w : Cond} {s U : State} (hk : th_nk w = true) (hW : s.WarmedH U.vm) (h : va_Nw w s) : va_Nw w U := by
  cases w <;> first | (exact va_Nw.warmC hW h) | (exact va_Nw.warmD hW h) | (exact va_Nw.warmM hW h) | (exact absurd hk (by decide)) | (exact absurd hk Bool.false_ne_true)
theorem th_nk_ot {w : Cond} (hk : th_nk w = true) : w.onTables = true := by
  cases w <;> first | rfl | (exact absurd hk Bool.false_ne_true)
/-- what holds of statics and tables in every frame -/
def th_S (base : Nat) (al : th_A) (U : State) (H : Heap) : Prop :=
  (vx_Zq Bundle.tN "UNASSIGNED_STACK" Bundle.steD (fun q => base ≤ q) U H ∧ vx_Zq Bundle.tN "SUPPRESSED_SENTINEL" Bundle.listD (fun q => base ≤ q) U H ∧ ∀ c ∈ th_AO, va_AO c U) ∧ (∀ w ∈ th_NB, va_Nw w U) ∧ (∀ q ∈ th_NC, va_Nc q.1 q.2 U) ∧
    ∀ q ∈ th_SA, va_Z q.1 q.2.1 "[I" (.ref (al q.2.2.1 0)) (fun q => base ≤ q) U H ∧ va_X (al q.2.2.1 0) q.2.2.2.length (fun k => q.2.2.2.getD k 0) U H ∧ ¬ base ≤ al q.2.2.1 0
theorem th_X_moved {b L : Nat} {xs : Nat → Int32} {s U : State} {H : Heap} (hvm : s.vm.Alike U.vm) (h : va_X b L xs s H) : va_X b L xs U H := by
  obtain ⟨scr, h1, h2, h3⟩ := h
  exact ⟨scr, h1, State.isArrayOf_alike hvm h2, h3⟩
theorem th_S_moved {base : Nat} {al : th_A} {u U : State} {H : Heap} (hW : u.WarmedH U.vm) (h : th_S base al u H) : th_S base al U H := by
  obtain ⟨⟨a, b, g⟩, d, e, f⟩ := h
  exact ⟨⟨vx_Zq.moved hW.alike a, vx_Zq.moved hW.alike b, fun c hc => va_AO.moved hW.alike (g c hc)⟩, fun w hw => th_nw_moved (List.mem_filter.mp hw).2 hW (d w hw), fun q hq => va_Nc.moved hW.alike (e q hq), fun q hq => ⟨va_Z.moved hW.alike (f q hq).1, th_X_moved hW.alike (f q hq).2.1, (f q hq).2.2⟩⟩
theorem th_S_kept {base : Nat} {al : th_A} {s : State} {H : Heap} (h : th_S base al s s.heap) (hq : ∀ a : Nat, a < s.heap.size → ¬ base ≤ a → H[a]? = s.heap[a]?) : th_S base al s H := by
  obtain ⟨⟨a, b, g⟩, d, e, f⟩ := h
  refine ⟨⟨vx_Zq.kept a hq, vx_Zq.kept b hq, g⟩, d, e, fun q hq1 => ⟨va_Z.kept (f q hq1).1 hq, ?_, (f q hq1).2.2⟩⟩
  obtain ⟨scr, h1, h2, h3⟩ := (f q hq1).2.1
  exact ⟨scr, by rw [hq _ (Array.getElem?_eq_some_iff.mp h1).1 (f q hq1).2.2]; exact h1, h2, h3⟩
theorem th_S_nw {base : Nat} {al : th_A} {U : State} {H : Heap} (h : th_S base al U H) (w : Cond) (hw : w ∈ th_NB) : va_Nw w U := h.2.1 w hw
end
section
def th_cv (al : th_A) (v : th_V) : Value := match v with
  | .inl x => .int x
  | .inr none => .null
  | .inr (some q) => .ref (al q.1 q.2)
theorem th_cv_cat (al : th_A) (v : th_V) : (th_cv al v).category = 1 := by
  rcases v with x | _ | q <;> rfl
def th_u (I : th_I) (t i k : Nat) (v : Int32) : th_I := fun t' i' => if t' = t ∧ i' = i then upd (I t i) k v else I t' i'
def th_ur (I : th_R) (t i k : Nat) (v : Option (Nat × Nat)) : th_R := fun t' i' => if t' = t ∧ i' = i then va_up (I t i) k v else I t' i'
theorem th_u_self (I : th_I) (t i k : Nat) (v : Int32) : th_u I t i k v t i = upd (I t i) k v := by simp [th_u]
theorem th_u_ne (I : th_I) {t i t' i' : Nat} (k : Nat) (v : Int32) (h : ¬ (t' = t ∧ i' = i)) : th_u I t i k v t' i' = I t' i' := by simp [th_u, h]
theorem th_ur_self (I : th_R) (t i k : Nat) (v : Option (Nat × Nat)) : th_ur I t i k v t i = va_up (I t i) k v := by simp [th_ur]
theorem th_ur_ne (I : th_R) {t i t' i' : Nat} (k : Nat) (v : Option (Nat × Nat)) (h : ¬ (t' = t ∧ i' = i)) : th_ur I t i k v t' i' = I t' i' := by simp [th_ur, h]
def th_aok (base : Nat) (al : th_A) : Prop := ∀ t i, t < 90 → al t i = base + th_ad t i
def th_fv (al : th_A) (mu : th_M) (t i k : Nat) : Value := if th_fr t k = true then th_cv al (.inr (mu.2.2.1 t i k)) else .int (mu.2.1 t i k)
def th_ck (D : va_G) (cA : Nat → ClassId) (al : th_A) (mu : th_M) (t i : Nat) (H : Heap) : Prop := match th_kd t with
  | (0, ci) => ∃ r : vw_C, th_Cl[ci]? = some r ∧ t_OB (al t i) (D.1 ci) r.2.2 (D.2 ci) H (fun k => th_fv al mu t i k)
  | (1, j) => H[al t i]? = some (arrV (cA j) (mu.2.2.2.1 t i) (fun k => .int (mu.2.1 t i k)))
  | (2, j) => H[al t i]? = some (arrV (cA j) (mu.2.2.2.1 t i) (fun k => th_cv al (.inr (mu.2.2.1 t i k))))
  | (_, j) => H[al t i]? = some (arrV (cA j) (mu.2.2.2.1 t i) (fun k => .long (mu.2.1 t i k).toInt64))
theorem th_ck_obj {D : va_G} {cA : Nat → ClassId} {al : th_A} {mu : th_M} {t i ci : Nat} {H : Heap} {r : vw_C} (h : th_ck D cA al mu t i H) (hk : th_kd t = (0, ci)) (hc : th_Cl[ci]? = some r) : t_OB (al t i) (D.1 ci) r.2.2 (D.2 ci) H (fun k => th_fv al mu t i k) := by
  unfold th_ck at h
  rw [hk] at h
  obtain ⟨r', h1, h2⟩ := h
  cases Option.some.inj (h1.symm.trans hc)
  exact h2
theorem th_ck_int {D : va_G} {cA : Nat → ClassId} {al : th_A} {mu : th_M} {t i j : Nat} {H : Heap} (h : th_ck D cA al mu t i H) (hk : th_kd t = (1, j)) : H[al t i]? = some (arrV (cA j) (mu.2.2.2.1 t i) (fun k => .int (mu.2.1 t i k))) := by
  unfold th_ck at h
  rw [hk] at h
  exact h
theorem th_ck_ref {D : va_G} {cA : Nat → ClassId} {al : th_A} {mu : th_M} {t i j : Nat} {H : Heap} (h : th_ck D cA al mu t i H) (hk : th_kd t = (2, j)) : H[al t i]? = some (arrV (cA j) (mu.2.2.2.1 t i) (fun k => th_cv al (.inr (mu.2.2.1 t i k)))) := by
  unfold th_ck at h
  rw [hk] at h
  exact h
theorem th_ck_lng {D : va_G} {cA : Nat → ClassId} {al : th_A} {mu : th_M} {t i j : Nat} {H : Heap} (h : th_ck D cA al mu t i H) (hk : th_kd t = (3, j)) : H[al t i]? = some (arrV (cA j) (mu.2.2.2.1 t i) (fun k => .long (mu.2.1 t i k).toInt64)) := by
  unfold th_ck at h
  rw [hk] at h
  exact h
theorem th_ck_kept {D : va_G} {cA : Nat → ClassId} {al : th_A} {mu : th_M} {t i : Nat} {H H1 : Heap} (h : th_ck D cA al mu t i H) (hq : H1[al t i]? = H[al t i]?) : th_ck D cA al mu t i H1 := by
  unfold th_ck at h ⊢
  rcases hk : th_kd t with ⟨a, j⟩
  rw [hk] at h
  rcases a with _ | _ | _ | a
  · obtain ⟨r, h1, h2⟩ := h
    exact ⟨r, h1, h2.kept hq⟩
  · exact hq.trans h
  · exact hq.trans h
  · exact hq.trans h
theorem th_ck_lt {D : va_G} {cA : Nat → ClassId} {al : th_A} {mu : th_M} {t i : Nat} {H : Heap} (h : th_ck D cA al mu t i H) : al t i < H.size := by
  unfold th_ck at h
  rcases hk : th_kd t with ⟨a, j⟩
  rw [hk] at h
  rcases a with _ | _ | _ | a
  · obtain ⟨r, h1, cell, h2, -⟩ := h
    exact (Array.getElem?_eq_some_iff.mp h2).1
  · exact (Array.getElem?_eq_some_iff.mp h).1
  · exact (Array.getElem?_eq_some_iff.mp h).1
  · exact (Array.getElem?_eq_some_iff.mp h).1
theorem th_ck_to {D : va_G} {cA : Nat → ClassId} {al : th_A} {mu mu' : th_M} {t i : Nat} {H : Heap} (h : th_ck D cA al mu t i H) (h1 : mu'.2.1 t i = mu.2.1 t i) (h2 : mu'.2.2.1 t i = mu.2.2.1 t i) (h3 : mu'.2.2.2.1 t i = mu.2.2.2.1 t i) : th_ck D cA al mu' t i H := by
  unfold th_ck th_fv at h ⊢
  rw [h1, h2, h3]
  exact h
def th_W (D : va_G) (cA : Nat → ClassId) (base : Nat) (al : th_A) (mu : th_M) (H : Heap) : Prop :=
  (∀ t i, i < mu.1 t → th_ck D cA al mu t i H) ∧ (∀ t i t' i', i < mu.1 t → i' < mu.1 t' → al t i = al t' i' → t = t' ∧ i = i') ∧ (∀ t i, i < mu.1 t → base ≤ al t i) ∧ (mu.2.2.2.2 = 0 ∨ H.size + 1 = base + mu.2.2.2.2)
theorem th_W_put {D : va_G} {cA : Nat → ClassId} {base : Nat} {al : th_A} {mu mu' : th_M} {H H1 : Heap} {t i : Nat} (h : th_W D cA base al mu H) (hi : i < mu.1 t) (hc : mu'.1 = mu.1) (h1 : th_ck D cA al mu' t i H1) (ho : ∀ q, q ≠ al t i → H1[q]? = H[q]?)
    (e1 : ∀ t' i', ¬ (t' = t ∧ i' = i) → mu'.2.1 t' i' = mu.2.1 t' i') (e2 : ∀ t' i', ¬ (t' = t ∧ i' = i) → mu'.2.2.1 t' i' = mu.2.2.1 t' i') (e3 : mu'.2.2.2 = mu.2.2.2) (hz : H1.size = H.size) : th_W D cA base al mu' H1 := by
  obtain ⟨a, b, d, f⟩ := h
  refine ⟨fun t' i' hi' => ?_, fun t1 i1 t2 i2 q1 q2 => b t1 i1 t2 i2 (by rw [← hc]; exact q1) (by rw [← hc]; exact q2), fun t1 i1 q1 => d t1 i1 (by rw [← hc]; exact q1), by rw [e3, hz]; exact f⟩
  by_cases e : t' = t ∧ i' = i
  · obtain ⟨rfl, rfl⟩ := e
    exact h1
  · rw [hc] at hi'
    exact th_ck_kept (th_ck_to (a t' i' hi') (e1 t' i' e) (e2 t' i' e) (by rw [e3])) (ho _ (fun q => e (b t' i' t i hi' hi q)))
def th_mk (mu : th_M) (t i : Nat) : th_M := (fun t' => if t' = t then i + 1 else mu.1 t', mu.2.1, mu.2.2.1, mu.2.2.2.1, mu.2.2.2.2 + 1)
theorem th_W_new {D : va_G} {cA : Nat → ClassId} {base : Nat} {al : th_A} {mu : th_M} {H H1 : Heap} {t i n : Nat} (h : th_W D cA base al mu H) (hn : mu.2.2.2.2 = n + 1) (hi : mu.1 t = i) (had : al t i = base + n) (ho : ∀ q, q < H.size → H1[q]? = H[q]?) (hz : H1.size = H.size + 1) (h1 : th_ck D cA al mu t i H1) : th_W D cA base al (th_mk mu t i) H1 := by
  obtain ⟨a, b, d, f⟩ := h
  have hs : H.size = base + n := by
    rcases f with f | f
    · omega
    · omega
  have cse : ∀ t' i', i' < (th_mk mu t i).1 t' → (t' = t ∧ i' = i) ∨ i' < mu.1 t' := by
    intro t' i' h'
    unfold th_mk at h'
    dsimp only at h'
    by_cases e : t' = t
    · subst e
      rw [if_pos rfl] at h'
      by_cases e2 : i' = i
      · exact Or.inl ⟨rfl, e2⟩
      · exact Or.inr (by omega)
    · rw [if_neg e] at h'
      exact Or.inr h'
  refine ⟨fun t' i' hi' => ?_, fun t1 i1 t2 i2 q1 q2 e => ?_, fun t1 i1 q1 => ?_, Or.inr (by show H1.size + 1 = base + (mu.2.2.2.2 + 1); omega)⟩
  · rcases cse t' i' hi' with ⟨rfl, rfl⟩ | q
    · exact th_ck_to h1 rfl rfl rfl
    · exact th_ck_to (th_ck_kept (a t' i' q) (ho _ (th_ck_lt (a t' i' q)))) rfl rfl rfl
  · rcases cse t1 i1 q1 with ⟨rfl, rfl⟩ | r1 <;> rcases cse t2 i2 q2 with ⟨rfl, rfl⟩ | r2
    · exact ⟨rfl, rfl⟩
    · have := th_ck_lt (a t2 i2 r2)
      omega
    · have := th_ck_lt (a t1 i1 r1)
      omega
    · exact b t1 i1 t2 i2 r1 r2 e
  · rcases cse t1 i1 q1 with ⟨rfl, rfl⟩ | r1
    · omega
    · exact d t1 i1 r1
theorem th_W_ext {D : va_G} {cA : Nat → ClassId} {base : Nat} {al : th_A} {mu mu' : th_M} {H : Heap} (h : th_W D cA base al mu H) (hc : ∀ t, mu'.1 t ≤ mu.1 t) (e1 : ∀ t i, i < mu'.1 t → mu'.2.1 t i = mu.2.1 t i) (e2 : ∀ t i, i < mu'.1 t → mu'.2.2.1 t i = mu.2.2.1 t i) (e3 : ∀ t i, i < mu'.1 t → mu'.2.2.2.1 t i = mu.2.2.2.1 t i) (hz : mu'.2.2.2.2 = 0 ∨ mu'.2.2.2.2 = mu.2.2.2.2) : th_W D cA base al mu' H := by
  obtain ⟨a, b, d, f⟩ := h
  refine ⟨fun t i q => th_ck_to (a t i (Nat.lt_of_lt_of_le q (hc t))) (e1 t i q) (e2 t i q) (e3 t i q), fun t1 i1 t2 i2 q1 q2 => b t1 i1 t2 i2 (Nat.lt_of_lt_of_le q1 (hc t1)) (Nat.lt_of_lt_of_le q2 (hc t2)), fun t i q => d t i (Nat.lt_of_lt_of_le q (hc t)), ?_⟩
  rcases hz with hz | hz
  · exact Or.inl hz
  · rw [hz]; exact f
theorem th_W_grow {D : va_G} {cA : Nat → ClassId} {base : Nat} {al : th_A} {mu : th_M} {H H1 : Heap} (h : th_W D cA base al mu H) (hz : mu.2.2.2.2 = 0) (ho : ∀ q, q < H.size → H1[q]? = H[q]?) : th_W D cA base al mu H1 := by
  obtain ⟨a, b, d, f⟩ := h
  exact ⟨fun t i q => th_ck_kept (a t i q) (ho _ (th_ck_lt (a t i q))), b, d, Or.inl hz⟩
abbrev th_Z : Type := Program × Env × Room × State × MethodId × Array Value × List Frame × Method × Code × (State → Prop) × va_G × (Nat → ClassId) × Nat × th_A
def th_G (l : Launch) (z : th_Z) (nL pc : Nat) (lv : List (Nat × th_V)) (st : List th_V) (mu : th_M) (kc ks : Nat) : Prop := match z with
  | (p, e, R, s, m, args, below, meth, c, Q, D, cA, base, al) => ∀ (H : Heap) (locs : List Loc) (ls : Array Slot), th_W D cA base al mu H → va_S (fun q => base ≤ q) s.heap H locs → lv_has ls nL (lv.map fun q => (q.1, th_cv al q.2)) →
      W p l e R s m args below meth c H locs kc ks Q (F0 m pc ls (st.map (th_cv al)))
def th_C (l : Launch) (z : th_Z) (cc : ByteArray) (nL : Nat) (own : String) (rm : Room) (ret : Option FieldType) (tb : List ExceptionTableEntry) : Prop := match z with
  | (p, _e, R, s, m, args, _below, meth, c, _Q, D, cA, base, al) => p.tables.exec = Jvm.exec ∧ c.code = cc ∧ c.maxLocals = nL ∧ s.vm.findClass own = some m.cls ∧ (∀ w ∈ th_B, w.before args s = true) ∧ meth.locks = false ∧ va_K D th_Cl (th_ty cA) s ∧ th_S base al s s.heap ∧ base ≤ s.heap.size ∧ R = rm ∧ meth.sig.returnType = ret ∧ c.exceptionTable.toList = tb ∧ l.stackTraces = false ∧ th_aok base al
def th_N (z : th_Z) (nm : String) : Prop := match z with
  | (_p, _e, _R, _s, _m, _args, _below, meth, _c, _Q, _D, _cA, _base, _al) => meth.name = nm
abbrev th_O : Type := Option th_V ⊕ String
abbrev th_P : Type := th_O → th_M → Prop
def th_Qc (D : va_G) (cA : Nat → ClassId) (base : Nat) (al : th_A) (Φ : th_P) : Array Value → State → Outcome → State → Prop := fun _ st o t =>
  (∃ (v : Option th_V) (mu' : th_M), Φ (.inl v) mu' ∧ o = .returned (v.map (th_cv al)) ∧ th_W D cA base al mu' t.heap) ∧ va_F (fun q => base ≤ q) st t
def th_Xc (D : va_G) (cA : Nat → ClassId) (base : Nat) (al : th_A) (Φ : th_P) : String → State → State → Prop := fun E st t =>
  (∃ mu' : th_M, Φ (.inr E) mu' ∧ th_W D cA base al mu' t.heap) ∧ va_F (fun q => base ≤ q) st t
def th_Q (z : th_Z) (Φ : th_P) (mc ms : Nat) : Prop := match z with
  | (_p, _e, _R, s, _m, args, below, _meth, _c, Q, D, cA, base, al) => Q = vx_MQ below (th_Qc D cA base al Φ) (th_Xc D cA base al Φ) args s mc ms (fun q => base ≤ q)
def th_Pc (D : va_G) (cA : Nat → ClassId) (base : Nat) (al : th_A) (as : List th_V) (mu : th_M) : Array Value → State → Prop := fun v U =>
  v = (as.map (th_cv al)).toArray ∧ base ≤ U.heap.size ∧ th_W D cA base al mu U.heap ∧ va_K D th_Cl (th_ty cA) U ∧ th_S base al U U.heap
def th_F (l : Launch) (y : MethodName) (cc : ByteArray) (mL : Nat) (ret : Option FieldType) (rm : Room) (as : List th_V) (mu : th_M) (Φ : th_P) : Prop :=
  ∀ (D : va_G) (cA : Nat → ClassId) (base : Nat) (al : th_A), th_aok base al → vx_Met l y (.code y cc mL ret :: th_B) rm (th_Pc D cA base al as mu) (th_Qc D cA base al Φ) (th_Xc D cA base al Φ) rm.cells rm.slots (fun q => base ≤ q)
def th_X (l : Launch) (z : th_Z) (nL pc : Nat) (lv : List (Nat × th_V)) (E : String) (mu : th_M) (kc ks : Nat) : Prop := match z with
  | (p, e, R, s, m, args, below, meth, c, Q, D, cA, base, al) => ∀ (H : Heap) (locs : List Loc) (ls : Array Slot) (rest : List Value) (q : Addr) (ce : Cell), th_W D cA base al mu H → va_S (fun q => base ≤ q) s.heap H locs → lv_has ls nL (lv.map fun q => (q.1, th_cv al q.2)) →
      H[q]? = some ce → ce.vm = .none → s.vm.findClass E = some ce.cls → vx_W p l e R s m args below meth c H locs kc ks Q (F0 m pc ls rest) q
def th_lk : List (Nat × th_V) → Nat → Option th_V
  | [], _ => none
  | q :: l, i => if q.1 = i then some q.2 else th_lk l i
theorem th_lk_mem : ∀ {lv : List (Nat × th_V)} {i : Nat} {v : th_V}, th_lk lv i = some v → (i, v) ∈ lv
  | [], _, _, h => by cases h
  | q :: l, i, v, h => by
    unfold th_lk at h
    by_cases e : q.1 = i
    · rw [if_pos e] at h
      cases h
      subst e
      exact List.mem_cons_self
    · rw [if_neg e] at h
      exact List.mem_cons_of_mem _ (th_lk_mem h)
theorem th_lk_at {lv : List (Nat × th_V)} {i nL : Nat} {v : th_V} {al : th_A} {ls : Array Slot} (h : th_lk lv i = some v) (hl : lv_has ls nL (lv.map fun q => (q.1, th_cv al q.2))) : ls[i]? = some (.val (th_cv al v)) :=
  hl.2.2 (i, th_cv al v) (List.mem_map.mpr ⟨(i, v), th_lk_mem h, rfl⟩)
def th_in : List (Nat × th_V) → Nat → th_V → List (Nat × th_V)
  | [], i, v => [(i, v)]
  | q :: l, i, v => if i < q.1 then (i, v) :: q :: l else q :: th_in l i v
theorem th_in_mem : ∀ {l : List (Nat × th_V)} {i : Nat} {v : th_V} {q : Nat × th_V}, q ∈ th_in l i v → q = (i, v) ∨ q ∈ l
  | [], _, _, _, h => by
    rcases List.mem_cons.mp h with h | h
    · exact Or.inl h
    · cases h
  | x :: l, i, v, q, h => by
    unfold th_in at h
    split at h
    · exact (List.mem_cons.mp h).imp id id
    · rcases List.mem_cons.mp h with h | h
      · exact Or.inr (by rw [h]; exact List.mem_cons_self)
      · exact (th_in_mem h).imp id (List.mem_cons_of_mem _)
def th_st (lv : List (Nat × th_V)) (i : Nat) (v : th_V) : List (Nat × th_V) := th_in (lv.filter (fun q => !(q.1 == i))) i v
theorem th_st_has {lv lv' : List (Nat × th_V)} {i nL : Nat} {v : th_V} {al : th_A} {ls : Array Slot} (hs : th_st lv i v = lv')
    (h : lv_has ls nL ((i, th_cv al v) :: (lv.map fun q => (q.1, th_cv al q.2)).filter (fun q => !(q.1 == i) && !(q.1 + 1 == i && q.2.category == 2)))) : lv_has ls nL (lv'.map fun q => (q.1, th_cv al q.2)) := by
  subst hs
  refine ⟨h.1, h.2.1, fun q hq => h.2.2 q ?_⟩
  obtain ⟨x, hx, rfl⟩ := List.mem_map.mp hq
  rcases th_in_mem hx with rfl | hx
  · exact List.mem_cons_self
  · obtain ⟨h1, h2⟩ := List.mem_filter.mp hx
    refine List.mem_cons_of_mem _ (List.mem_filter.mpr ⟨List.mem_map.mpr ⟨x, h1, rfl⟩, ?_⟩)
    have hc := th_cv_cat al x.2
    simp only [hc]
    simpa using h2
theorem th_sub_has {lv lv' : List (Nat × th_V)} {nL : Nat} {al : th_A} {ls : Array Slot} (hs : ∀ q ∈ lv', q ∈ lv) (h : lv_has ls nL (lv.map fun q => (q.1, th_cv al q.2))) : lv_has ls nL (lv'.map fun q => (q.1, th_cv al q.2)) := by
  refine ⟨h.1, h.2.1, fun q hq => h.2.2 q ?_⟩
  obtain ⟨x, hx, rfl⟩ := List.mem_map.mp hq
  exact List.mem_map.mpr ⟨x, hs x hx, rfl⟩
def th_al : Nat → List th_V → List (Nat × th_V)
  | _, [] => []
  | i, v :: vs => (i, v) :: th_al (i + 1) vs
theorem th_al_args (al : th_A) : ∀ (i : Nat) (as : List th_V), lv_args i (as.map (th_cv al)) = (th_al i as).map fun q => (q.1, th_cv al q.2)
  | _, [] => rfl
  | i, v :: vs => by
    show (i, th_cv al v) :: lv_args (if (th_cv al v).category = 2 then i + 2 else i + 1) (vs.map (th_cv al)) = _
    rw [th_cv_cat, if_neg (by decide), th_al_args al (i + 1) vs]
    rfl
theorem th_al_len (al : th_A) : ∀ (as : List th_V), (lg_sl (as.map (th_cv al))).length = as.length
  | [] => rfl
  | v :: vs => by
    have h := th_al_len al vs
    unfold lg_sl at h ⊢
    rw [List.map_cons, List.flatMap_cons, th_cv_cat, if_neg (by decide), List.length_append, h]
    simp [Nat.add_comm]
end
section
section BaseRows
variable {l : Launch} {z : th_Z} {cc : ByteArray} {nL pc kc ks : Nat} {own : String} {rm : Room} {ret : Option FieldType} {tb : List ExceptionTableEntry} {lv : List (Nat × th_V)} {st : List th_V} {mu : th_M}
theorem th_iconst (C : th_C l z cc nL own rm ret tb) {n : Int} {v : Int32} (hd : decode cc pc = .ok (.iconst n, 1)) (hv : Int32.ofInt n = v) (k : th_G l z nL (pc + 1) lv (.inl v :: st) mu kc ks) : th_G l z nL pc lv st mu kc ks := by
  obtain ⟨p, e, R, s, m, args, below, meth, c, Q, D, cA, base, al⟩ := z
  obtain ⟨hx, hb, -⟩ := C
  intro H locs ls hw hS hl
  exact lv_iconst hx hb hd hv (k H locs ls hw hS hl)
theorem th_bipush (C : th_C l z cc nL own rm ret tb) {n : Int} {v : Int32} (hd : decode cc pc = .ok (.bipush n, 2)) (hv : (Int8.ofInt n).toInt32 = v) (k : th_G l z nL (pc + 2) lv (.inl v :: st) mu kc ks) : th_G l z nL pc lv st mu kc ks := by
  obtain ⟨p, e, R, s, m, args, below, meth, c, Q, D, cA, base, al⟩ := z
  obtain ⟨hx, hb, -⟩ := C
  intro H locs ls hw hS hl
  exact lv_bipush hx hb hd hv (k H locs ls hw hS hl)
theorem th_sipush (C : th_C l z cc nL own rm ret tb) {n : Int} {v : Int32} (hd : decode cc pc = .ok (.sipush n, 3)) (hv : (Int16.ofInt n).toInt32 = v) (k : th_G l z nL (pc + 3) lv (.inl v :: st) mu kc ks) : th_G l z nL pc lv st mu kc ks := by
  obtain ⟨p, e, R, s, m, args, below, meth, c, Q, D, cA, base, al⟩ := z
  obtain ⟨hx, hb, -⟩ := C
  intro H locs ls hw hS hl
  exact lv_sipush hx hb hd hv (k H locs ls hw hS hl)
theorem th_ldc (C : th_C l z cc nL own rm ret tb) {v : Int32} {ix : Nat} (hd : decode cc pc = .ok (.ldc ix, 2)) (hw1 : Jvm.Cond.constant own ix v ∈ th_B) (k : th_G l z nL (pc + 2) lv (.inl v :: st) mu kc ks) : th_G l z nL pc lv st mu kc ks := by
  obtain ⟨p, e, R, s, m, args, below, meth, c, Q, D, cA, base, al⟩ := z
  obtain ⟨hx, hb, hml, hown, hts, -⟩ := C
  intro H locs ls hw hS hl
  exact W.ldc hx hb hown (hts _ hw1) rfl hd (k H locs ls hw hS hl)
theorem th_null (C : th_C l z cc nL own rm ret tb) (hd : decode cc pc = .ok (.aconst_null, 1)) (k : th_G l z nL (pc + 1) lv (.inr none :: st) mu kc ks) : th_G l z nL pc lv st mu kc ks := by
  obtain ⟨p, e, R, s, m, args, below, meth, c, Q, D, cA, base, al⟩ := z
  obtain ⟨hx, hb, -⟩ := C
  intro H locs ls hw hS hl
  exact lv_null hx hb hd (k H locs ls hw hS hl)
theorem th_iadd (C : th_C l z cc nL own rm ret tb) {x y : Int32} (hd : decode cc pc = .ok (.iadd, 1)) (k : th_G l z nL (pc + 1) lv (.inl (x + y) :: st) mu kc ks) : th_G l z nL pc lv (.inl y :: .inl x :: st) mu kc ks := by
  obtain ⟨p, e, R, s, m, args, below, meth, c, Q, D, cA, base, al⟩ := z
  obtain ⟨hx, hb, -⟩ := C
  intro H locs ls hw hS hl
  exact lv_iadd hx hb hd (k H locs ls hw hS hl)
theorem th_isub (C : th_C l z cc nL own rm ret tb) {x y : Int32} (hd : decode cc pc = .ok (.isub, 1)) (k : th_G l z nL (pc + 1) lv (.inl (x - y) :: st) mu kc ks) : th_G l z nL pc lv (.inl y :: .inl x :: st) mu kc ks := by
  obtain ⟨p, e, R, s, m, args, below, meth, c, Q, D, cA, base, al⟩ := z
  obtain ⟨hx, hb, -⟩ := C
  intro H locs ls hw hS hl
  exact lv_isub hx hb hd (k H locs ls hw hS hl)
theorem th_imul (C : th_C l z cc nL own rm ret tb) {x y : Int32} (hd : decode cc pc = .ok (.imul, 1)) (k : th_G l z nL (pc + 1) lv (.inl (x * y) :: st) mu kc ks) : th_G l z nL pc lv (.inl y :: .inl x :: st) mu kc ks := by
  obtain ⟨p, e, R, s, m, args, below, meth, c, Q, D, cA, base, al⟩ := z
  obtain ⟨hx, hb, -⟩ := C
  intro H locs ls hw hS hl
  exact lv_imul hx hb hd (k H locs ls hw hS hl)
theorem th_iand (C : th_C l z cc nL own rm ret tb) {x y : Int32} (hd : decode cc pc = .ok (.iand, 1)) (k : th_G l z nL (pc + 1) lv (.inl (x &&& y) :: st) mu kc ks) : th_G l z nL pc lv (.inl y :: .inl x :: st) mu kc ks := by
  obtain ⟨p, e, R, s, m, args, below, meth, c, Q, D, cA, base, al⟩ := z
  obtain ⟨hx, hb, -⟩ := C
  intro H locs ls hw hS hl
  exact lv_iand hx hb hd (k H locs ls hw hS hl)
theorem th_ior (C : th_C l z cc nL own rm ret tb) {x y : Int32} (hd : decode cc pc = .ok (.ior, 1)) (k : th_G l z nL (pc + 1) lv (.inl (x ||| y) :: st) mu kc ks) : th_G l z nL pc lv (.inl y :: .inl x :: st) mu kc ks := by
  obtain ⟨p, e, R, s, m, args, below, meth, c, Q, D, cA, base, al⟩ := z
  obtain ⟨hx, hb, -⟩ := C
  intro H locs ls hw hS hl
  exact lv_ior hx hb hd (k H locs ls hw hS hl)
theorem th_ixor (C : th_C l z cc nL own rm ret tb) {x y : Int32} (hd : decode cc pc = .ok (.ixor, 1)) (k : th_G l z nL (pc + 1) lv (.inl (x ^^^ y) :: st) mu kc ks) : th_G l z nL pc lv (.inl y :: .inl x :: st) mu kc ks := by
  obtain ⟨p, e, R, s, m, args, below, meth, c, Q, D, cA, base, al⟩ := z
  obtain ⟨hx, hb, -⟩ := C
  intro H locs ls hw hS hl
  exact lv_ixor hx hb hd (k H locs ls hw hS hl)
theorem th_irem (C : th_C l z cc nL own rm ret tb) {x y : Int32} (hd : decode cc pc = .ok (.irem, 1)) (hne : ¬ y = 0) (k : th_G l z nL (pc + 1) lv (.inl (x - x / y * y) :: st) mu kc ks) : th_G l z nL pc lv (.inl y :: .inl x :: st) mu kc ks := by
  obtain ⟨p, e, R, s, m, args, below, meth, c, Q, D, cA, base, al⟩ := z
  obtain ⟨hx, hb, -⟩ := C
  intro H locs ls hw hS hl
  exact lv_irem hx hb hd hne (k H locs ls hw hS hl)
theorem th_idiv (C : th_C l z cc nL own rm ret tb) {x y : Int32} (hd : decode cc pc = .ok (.idiv, 1)) (hne : ¬ y = 0) (k : th_G l z nL (pc + 1) lv (.inl (x / y) :: st) mu kc ks) : th_G l z nL pc lv (.inl y :: .inl x :: st) mu kc ks := by
  obtain ⟨p, e, R, s, m, args, below, meth, c, Q, D, cA, base, al⟩ := z
  obtain ⟨hx, hb, -⟩ := C
  intro H locs ls hw hS hl
  exact lv_idiv hx hb hd hne (k H locs ls hw hS hl)
theorem th_ineg (C : th_C l z cc nL own rm ret tb) {x : Int32} (hd : decode cc pc = .ok (.ineg, 1)) (k : th_G l z nL (pc + 1) lv (.inl (-x) :: st) mu kc ks) : th_G l z nL pc lv (.inl x :: st) mu kc ks := by
  obtain ⟨p, e, R, s, m, args, below, meth, c, Q, D, cA, base, al⟩ := z
  obtain ⟨hx, hb, -⟩ := C
  intro H locs ls hw hS hl
  exact lv_ineg hx hb hd (k H locs ls hw hS hl)
theorem th_dup (C : th_C l z cc nL own rm ret tb) {v : th_V} (hd : decode cc pc = .ok (.dup, 1)) (k : th_G l z nL (pc + 1) lv (v :: v :: st) mu kc ks) : th_G l z nL pc lv (v :: st) mu kc ks := by
  obtain ⟨p, e, R, s, m, args, below, meth, c, Q, D, cA, base, al⟩ := z
  obtain ⟨hx, hb, -⟩ := C
  intro H locs ls hw hS hl
  exact lv_dup hx hb hd (th_cv_cat al v) (k H locs ls hw hS hl)
theorem th_pop (C : th_C l z cc nL own rm ret tb) {v : th_V} (hd : decode cc pc = .ok (.pop, 1)) (k : th_G l z nL (pc + 1) lv st mu kc ks) : th_G l z nL pc lv (v :: st) mu kc ks := by
  obtain ⟨p, e, R, s, m, args, below, meth, c, Q, D, cA, base, al⟩ := z
  obtain ⟨hx, hb, -⟩ := C
  intro H locs ls hw hS hl
  exact lv_pop hx hb hd (th_cv_cat al v) (k H locs ls hw hS hl)
theorem th_dup_x1 (C : th_C l z cc nL own rm ret tb) {v w : th_V} (hd : decode cc pc = .ok (.dup_x1, 1)) (k : th_G l z nL (pc + 1) lv (v :: w :: v :: st) mu kc ks) : th_G l z nL pc lv (v :: w :: st) mu kc ks := by
  obtain ⟨p, e, R, s, m, args, below, meth, c, Q, D, cA, base, al⟩ := z
  obtain ⟨hx, hb, -⟩ := C
  intro H locs ls hw hS hl
  exact lv_dup_x1 hx hb hd (th_cv_cat al v) (th_cv_cat al w) (k H locs ls hw hS hl)
theorem th_dup_x2 (C : th_C l z cc nL own rm ret tb) {v w u : th_V} (hd : decode cc pc = .ok (.dup_x2, 1)) (k : th_G l z nL (pc + 1) lv (v :: w :: u :: v :: st) mu kc ks) : th_G l z nL pc lv (v :: w :: u :: st) mu kc ks := by
  obtain ⟨p, e, R, s, m, args, below, meth, c, Q, D, cA, base, al⟩ := z
  obtain ⟨hx, hb, -⟩ := C
  intro H locs ls hw hS hl
  exact lv_dup_x2 hx hb hd (th_cv_cat al v) (th_cv_cat al w) (th_cv_cat al u) (k H locs ls hw hS hl)
theorem th_dup2 (C : th_C l z cc nL own rm ret tb) {v w : th_V} (hd : decode cc pc = .ok (.dup2, 1)) (k : th_G l z nL (pc + 1) lv (v :: w :: v :: w :: st) mu kc ks) : th_G l z nL pc lv (v :: w :: st) mu kc ks := by
  obtain ⟨p, e, R, s, m, args, below, meth, c, Q, D, cA, base, al⟩ := z
  obtain ⟨hx, hb, -⟩ := C
  intro H locs ls hw hS hl
  exact lv_dup2_11 hx hb hd (th_cv_cat al v) (th_cv_cat al w) (k H locs ls hw hS hl)
theorem th_iload_n (C : th_C l z cc nL own rm ret tb) {j : Fin 4} {i : Nat} {x : Int32} (hd : decode cc pc = .ok (.iload_n j, 1)) (hi : (j : Nat) = i) (h : th_lk lv i = some (.inl x)) (k : th_G l z nL (pc + 1) lv (.inl x :: st) mu kc ks) : th_G l z nL pc lv st mu kc ks := by
  obtain ⟨p, e, R, s, m, args, below, meth, c, Q, D, cA, base, al⟩ := z
  obtain ⟨hx, hb, -⟩ := C
  intro H locs ls hw hS hl
  exact lv_iload_n hx hb hd hi (th_lk_at h hl) (k H locs ls hw hS hl)
theorem th_iload (C : th_C l z cc nL own rm ret tb) {i : Nat} {x : Int32} (hd : decode cc pc = .ok (.iload i, 2)) (h : th_lk lv i = some (.inl x)) (k : th_G l z nL (pc + 2) lv (.inl x :: st) mu kc ks) : th_G l z nL pc lv st mu kc ks := by
  obtain ⟨p, e, R, s, m, args, below, meth, c, Q, D, cA, base, al⟩ := z
  obtain ⟨hx, hb, -⟩ := C
  intro H locs ls hw hS hl
  exact lv_iload hx hb hd (th_lk_at h hl) (k H locs ls hw hS hl)
theorem th_aload_n (C : th_C l z cc nL own rm ret tb) {j : Fin 4} {i : Nat} {x : Nat × Nat} (hd : decode cc pc = .ok (.aload_n j, 1)) (hi : (j : Nat) = i) (h : th_lk lv i = some (.inr (some x))) (k : th_G l z nL (pc + 1) lv (.inr (some x) :: st) mu kc ks) : th_G l z nL pc lv st mu kc ks := by
  obtain ⟨p, e, R, s, m, args, below, meth, c, Q, D, cA, base, al⟩ := z
  obtain ⟨hx, hb, -⟩ := C
  intro H locs ls hw hS hl
  exact lv_aload_n hx hb hd hi (th_lk_at h hl) (k H locs ls hw hS hl)
theorem th_aload (C : th_C l z cc nL own rm ret tb) {i : Nat} {x : Nat × Nat} (hd : decode cc pc = .ok (.aload i, 2)) (h : th_lk lv i = some (.inr (some x))) (k : th_G l z nL (pc + 2) lv (.inr (some x) :: st) mu kc ks) : th_G l z nL pc lv st mu kc ks := by
  obtain ⟨p, e, R, s, m, args, below, meth, c, Q, D, cA, base, al⟩ := z
  obtain ⟨hx, hb, -⟩ := C
  intro H locs ls hw hS hl
  exact lv_aload hx hb hd (th_lk_at h hl) (k H locs ls hw hS hl)
theorem th_istore_n (C : th_C l z cc nL own rm ret tb) {j : Fin 4} {i : Nat} {x : Int32} {lv' : List (Nat × th_V)} (hd : decode cc pc = .ok (.istore_n j, 1)) (hi : (j : Nat) = i) (hn : i < nL) (h : th_st lv i (.inl x) = lv') (k : th_G l z nL (pc + 1) lv' st mu kc ks) : th_G l z nL pc lv (.inl x :: st) mu kc ks := by
  obtain ⟨p, e, R, s, m, args, below, meth, c, Q, D, cA, base, al⟩ := z
  obtain ⟨hx, hb, -⟩ := C
  intro H locs ls hw hS hl
  exact lv_istore_n hx hb hd hi hl hn rfl (fun ls' hl' => k H locs ls' hw hS (th_st_has h hl'))
theorem th_istore (C : th_C l z cc nL own rm ret tb) {i : Nat} {x : Int32} {lv' : List (Nat × th_V)} (hd : decode cc pc = .ok (.istore i, 2)) (hn : i < nL) (h : th_st lv i (.inl x) = lv') (k : th_G l z nL (pc + 2) lv' st mu kc ks) : th_G l z nL pc lv (.inl x :: st) mu kc ks := by
  obtain ⟨p, e, R, s, m, args, below, meth, c, Q, D, cA, base, al⟩ := z
  obtain ⟨hx, hb, -⟩ := C
  intro H locs ls hw hS hl
  exact lv_istore hx hb hd hl hn rfl (fun ls' hl' => k H locs ls' hw hS (th_st_has h hl'))
theorem th_astore_n (C : th_C l z cc nL own rm ret tb) {j : Fin 4} {i : Nat} {x : Nat × Nat} {lv' : List (Nat × th_V)} (hd : decode cc pc = .ok (.astore_n j, 1)) (hi : (j : Nat) = i) (hn : i < nL) (h : th_st lv i (.inr (some x)) = lv') (k : th_G l z nL (pc + 1) lv' st mu kc ks) : th_G l z nL pc lv (.inr (some x) :: st) mu kc ks := by
  obtain ⟨p, e, R, s, m, args, below, meth, c, Q, D, cA, base, al⟩ := z
  obtain ⟨hx, hb, -⟩ := C
  intro H locs ls hw hS hl
  exact lv_astore_n hx hb hd hi hl hn rfl (fun ls' hl' => k H locs ls' hw hS (th_st_has h hl'))
theorem th_astore (C : th_C l z cc nL own rm ret tb) {i : Nat} {x : Nat × Nat} {lv' : List (Nat × th_V)} (hd : decode cc pc = .ok (.astore i, 2)) (hn : i < nL) (h : th_st lv i (.inr (some x)) = lv') (k : th_G l z nL (pc + 2) lv' st mu kc ks) : th_G l z nL pc lv (.inr (some x) :: st) mu kc ks := by
  obtain ⟨p, e, R, s, m, args, below, meth, c, Q, D, cA, base, al⟩ := z
  obtain ⟨hx, hb, -⟩ := C
  intro H locs ls hw hS hl
  exact lv_astore hx hb hd hl hn rfl (fun ls' hl' => k H locs ls' hw hS (th_st_has h hl'))
theorem th_iinc (C : th_C l z cc nL own rm ret tb) {i : Nat} {n : Int} {x v : Int32} {lv' : List (Nat × th_V)} (hd : decode cc pc = .ok (.iinc i n, 3)) (hx0 : th_lk lv i = some (.inl x)) (hv : x + Int32.ofInt n = v) (hn : i < nL) (h : th_st lv i (.inl v) = lv') (k : th_G l z nL (pc + 3) lv' st mu kc ks) : th_G l z nL pc lv st mu kc ks := by
  obtain ⟨p, e, R, s, m, args, below, meth, c, Q, D, cA, base, al⟩ := z
  obtain ⟨hx, hb, -⟩ := C
  intro H locs ls hw hS hl
  obtain ⟨j, hj⟩ := List.getElem?_of_mem (List.mem_map.mpr ⟨(i, (.inl x : th_V)), th_lk_mem hx0, rfl⟩ : (i, th_cv al (.inl x)) ∈ lv.map fun q => (q.1, th_cv al q.2))
  exact lv_iinc hx hb hd hl (k := j) hj hv hn rfl (fun ls' hl' => k H locs ls' hw hS (th_st_has (v := .inl v) h hl'))
theorem th_if_eq (C : th_C l z cc nL own rm ret tb) {x : Int32} {off : Int} {tgt : Nat} (hd : decode cc pc = .ok (.ifCond .eq off, 3)) (ht : (pc : Int) + off = (tgt : Int)) (kt : x = 0 → th_G l z nL tgt lv st mu kc ks) (kf : ¬ x = 0 → th_G l z nL (pc + 3) lv st mu kc ks) : th_G l z nL pc lv (.inl x :: st) mu kc ks := by
  obtain ⟨p, e, R, s, m, args, below, meth, c, Q, D, cA, base, al⟩ := z
  obtain ⟨hx, hb, -⟩ := C
  intro H locs ls hw hS hl
  exact lv_if_eq hx hb hd ht (fun h => kt h H locs ls hw hS hl) (fun h => kf h H locs ls hw hS hl)
theorem th_icmp_eq (C : th_C l z cc nL own rm ret tb) {x y : Int32} {off : Int} {tgt : Nat} (hd : decode cc pc = .ok (.if_icmp .eq off, 3)) (ht : (pc : Int) + off = (tgt : Int)) (kt : x = y → th_G l z nL tgt lv st mu kc ks) (kf : ¬ x = y → th_G l z nL (pc + 3) lv st mu kc ks) : th_G l z nL pc lv (.inl y :: .inl x :: st) mu kc ks := by
  obtain ⟨p, e, R, s, m, args, below, meth, c, Q, D, cA, base, al⟩ := z
  obtain ⟨hx, hb, -⟩ := C
  intro H locs ls hw hS hl
  exact lv_icmp_eq hx hb hd ht (fun h => kt h H locs ls hw hS hl) (fun h => kf h H locs ls hw hS hl)
theorem th_if_ne (C : th_C l z cc nL own rm ret tb) {x : Int32} {off : Int} {tgt : Nat} (hd : decode cc pc = .ok (.ifCond .ne off, 3)) (ht : (pc : Int) + off = (tgt : Int)) (kt : ¬ x = 0 → th_G l z nL tgt lv st mu kc ks) (kf : x = 0 → th_G l z nL (pc + 3) lv st mu kc ks) : th_G l z nL pc lv (.inl x :: st) mu kc ks := by
  obtain ⟨p, e, R, s, m, args, below, meth, c, Q, D, cA, base, al⟩ := z
  obtain ⟨hx, hb, -⟩ := C
  intro H locs ls hw hS hl
  exact lv_if_ne hx hb hd ht (fun h => kt h H locs ls hw hS hl) (fun h => kf h H locs ls hw hS hl)
theorem th_icmp_ne (C : th_C l z cc nL own rm ret tb) {x y : Int32} {off : Int} {tgt : Nat} (hd : decode cc pc = .ok (.if_icmp .ne off, 3)) (ht : (pc : Int) + off = (tgt : Int)) (kt : ¬ x = y → th_G l z nL tgt lv st mu kc ks) (kf : x = y → th_G l z nL (pc + 3) lv st mu kc ks) : th_G l z nL pc lv (.inl y :: .inl x :: st) mu kc ks := by
  obtain ⟨p, e, R, s, m, args, below, meth, c, Q, D, cA, base, al⟩ := z
  obtain ⟨hx, hb, -⟩ := C
  intro H locs ls hw hS hl
  exact lv_icmp_ne hx hb hd ht (fun h => kt h H locs ls hw hS hl) (fun h => kf h H locs ls hw hS hl)
theorem th_if_lt (C : th_C l z cc nL own rm ret tb) {x : Int32} {off : Int} {tgt : Nat} (hd : decode cc pc = .ok (.ifCond .lt off, 3)) (ht : (pc : Int) + off = (tgt : Int)) (kt : x < 0 → th_G l z nL tgt lv st mu kc ks) (kf : ¬ x < 0 → th_G l z nL (pc + 3) lv st mu kc ks) : th_G l z nL pc lv (.inl x :: st) mu kc ks := by
  obtain ⟨p, e, R, s, m, args, below, meth, c, Q, D, cA, base, al⟩ := z
  obtain ⟨hx, hb, -⟩ := C
  intro H locs ls hw hS hl
  exact lv_if_lt hx hb hd ht (fun h => kt h H locs ls hw hS hl) (fun h => kf h H locs ls hw hS hl)
theorem th_icmp_lt (C : th_C l z cc nL own rm ret tb) {x y : Int32} {off : Int} {tgt : Nat} (hd : decode cc pc = .ok (.if_icmp .lt off, 3)) (ht : (pc : Int) + off = (tgt : Int)) (kt : x < y → th_G l z nL tgt lv st mu kc ks) (kf : ¬ x < y → th_G l z nL (pc + 3) lv st mu kc ks) : th_G l z nL pc lv (.inl y :: .inl x :: st) mu kc ks := by
  obtain ⟨p, e, R, s, m, args, below, meth, c, Q, D, cA, base, al⟩ := z
  obtain ⟨hx, hb, -⟩ := C
  intro H locs ls hw hS hl
  exact lv_icmp_lt hx hb hd ht (fun h => kt h H locs ls hw hS hl) (fun h => kf h H locs ls hw hS hl)
theorem th_if_ge (C : th_C l z cc nL own rm ret tb) {x : Int32} {off : Int} {tgt : Nat} (hd : decode cc pc = .ok (.ifCond .ge off, 3)) (ht : (pc : Int) + off = (tgt : Int)) (kt : 0 ≤ x → th_G l z nL tgt lv st mu kc ks) (kf : ¬ 0 ≤ x → th_G l z nL (pc + 3) lv st mu kc ks) : th_G l z nL pc lv (.inl x :: st) mu kc ks := by
  obtain ⟨p, e, R, s, m, args, below, meth, c, Q, D, cA, base, al⟩ := z
  obtain ⟨hx, hb, -⟩ := C
  intro H locs ls hw hS hl
  exact lv_if_ge hx hb hd ht (fun h => kt h H locs ls hw hS hl) (fun h => kf h H locs ls hw hS hl)
theorem th_icmp_ge (C : th_C l z cc nL own rm ret tb) {x y : Int32} {off : Int} {tgt : Nat} (hd : decode cc pc = .ok (.if_icmp .ge off, 3)) (ht : (pc : Int) + off = (tgt : Int)) (kt : y ≤ x → th_G l z nL tgt lv st mu kc ks) (kf : ¬ y ≤ x → th_G l z nL (pc + 3) lv st mu kc ks) : th_G l z nL pc lv (.inl y :: .inl x :: st) mu kc ks := by
  obtain ⟨p, e, R, s, m, args, below, meth, c, Q, D, cA, base, al⟩ := z
  obtain ⟨hx, hb, -⟩ := C
  intro H locs ls hw hS hl
  exact lv_icmp_ge hx hb hd ht (fun h => kt h H locs ls hw hS hl) (fun h => kf h H locs ls hw hS hl)
theorem th_if_gt (C : th_C l z cc nL own rm ret tb) {x : Int32} {off : Int} {tgt : Nat} (hd : decode cc pc = .ok (.ifCond .gt off, 3)) (ht : (pc : Int) + off = (tgt : Int)) (kt : 0 < x → th_G l z nL tgt lv st mu kc ks) (kf : ¬ 0 < x → th_G l z nL (pc + 3) lv st mu kc ks) : th_G l z nL pc lv (.inl x :: st) mu kc ks := by
  obtain ⟨p, e, R, s, m, args, below, meth, c, Q, D, cA, base, al⟩ := z
  obtain ⟨hx, hb, -⟩ := C
  intro H locs ls hw hS hl
  exact lv_if_gt hx hb hd ht (fun h => kt h H locs ls hw hS hl) (fun h => kf h H locs ls hw hS hl)
theorem th_icmp_gt (C : th_C l z cc nL own rm ret tb) {x y : Int32} {off : Int} {tgt : Nat} (hd : decode cc pc = .ok (.if_icmp .gt off, 3)) (ht : (pc : Int) + off = (tgt : Int)) (kt : y < x → th_G l z nL tgt lv st mu kc ks) (kf : ¬ y < x → th_G l z nL (pc + 3) lv st mu kc ks) : th_G l z nL pc lv (.inl y :: .inl x :: st) mu kc ks := by
  obtain ⟨p, e, R, s, m, args, below, meth, c, Q, D, cA, base, al⟩ := z
  obtain ⟨hx, hb, -⟩ := C
  intro H locs ls hw hS hl
  exact lv_icmp_gt hx hb hd ht (fun h => kt h H locs ls hw hS hl) (fun h => kf h H locs ls hw hS hl)
theorem th_if_le (C : th_C l z cc nL own rm ret tb) {x : Int32} {off : Int} {tgt : Nat} (hd : decode cc pc = .ok (.ifCond .le off, 3)) (ht : (pc : Int) + off = (tgt : Int)) (kt : x ≤ 0 → th_G l z nL tgt lv st mu kc ks) (kf : ¬ x ≤ 0 → th_G l z nL (pc + 3) lv st mu kc ks) : th_G l z nL pc lv (.inl x :: st) mu kc ks := by
  obtain ⟨p, e, R, s, m, args, below, meth, c, Q, D, cA, base, al⟩ := z
  obtain ⟨hx, hb, -⟩ := C
  intro H locs ls hw hS hl
  exact lv_if_le hx hb hd ht (fun h => kt h H locs ls hw hS hl) (fun h => kf h H locs ls hw hS hl)
theorem th_icmp_le (C : th_C l z cc nL own rm ret tb) {x y : Int32} {off : Int} {tgt : Nat} (hd : decode cc pc = .ok (.if_icmp .le off, 3)) (ht : (pc : Int) + off = (tgt : Int)) (kt : x ≤ y → th_G l z nL tgt lv st mu kc ks) (kf : ¬ x ≤ y → th_G l z nL (pc + 3) lv st mu kc ks) : th_G l z nL pc lv (.inl y :: .inl x :: st) mu kc ks := by
  obtain ⟨p, e, R, s, m, args, below, meth, c, Q, D, cA, base, al⟩ := z
  obtain ⟨hx, hb, -⟩ := C
  intro H locs ls hw hS hl
  exact lv_icmp_le hx hb hd ht (fun h => kt h H locs ls hw hS hl) (fun h => kf h H locs ls hw hS hl)
theorem th_goto (C : th_C l z cc nL own rm ret tb) {off : Int} {tgt : Nat} (hd : decode cc pc = .ok (.goto off, 3)) (ht : (pc : Int) + off = (tgt : Int)) (k : th_G l z nL tgt lv st mu kc ks) : th_G l z nL pc lv st mu kc ks := by
  obtain ⟨p, e, R, s, m, args, below, meth, c, Q, D, cA, base, al⟩ := z
  obtain ⟨hx, hb, -⟩ := C
  intro H locs ls hw hS hl
  exact lv_goto hx hb hd ht (k H locs ls hw hS hl)
theorem th_tableIn (C : th_C l z cc nL own rm ret tb) {dflt lo hi : Int} {offs : Array Int} {len : Nat} {x : Int32} {off : Int} {tgt : Nat} (hd : decode cc pc = .ok (.tableswitch dflt lo hi offs, len)) (h1 : ¬ x.toInt < lo) (h2 : ¬ hi < x.toInt) (ho : offs[(x.toInt - lo).toNat]? = some off) (ht : (pc : Int) + off = (tgt : Int)) (k : th_G l z nL tgt lv st mu kc ks) : th_G l z nL pc lv (.inl x :: st) mu kc ks := by
  obtain ⟨p, e, R, s, m, args, below, meth, c, Q, D, cA, base, al⟩ := z
  obtain ⟨hx, hb, -⟩ := C
  intro H locs ls hw hS hl
  exact lv_tableIn hx hb hd h1 h2 ho ht (k H locs ls hw hS hl)
theorem th_tableOut (C : th_C l z cc nL own rm ret tb) {dflt lo hi : Int} {offs : Array Int} {len : Nat} {x : Int32} {tgt : Nat} (hd : decode cc pc = .ok (.tableswitch dflt lo hi offs, len)) (h1 : x.toInt < lo ∨ hi < x.toInt) (ht : (pc : Int) + dflt = (tgt : Int)) (k : th_G l z nL tgt lv st mu kc ks) : th_G l z nL pc lv (.inl x :: st) mu kc ks := by
  obtain ⟨p, e, R, s, m, args, below, meth, c, Q, D, cA, base, al⟩ := z
  obtain ⟨hx, hb, -⟩ := C
  intro H locs ls hw hS hl
  exact lv_tableOut hx hb hd h1 ht (k H locs ls hw hS hl)
theorem th_sub (C : th_C l z cc nL own rm ret tb) {lv' : List (Nat × th_V)} (h : ∀ q ∈ lv', q ∈ lv) (k : th_G l z nL pc lv' st mu kc ks) : th_G l z nL pc lv st mu kc ks := by
  obtain ⟨p, e, R, s, m, args, below, meth, c, Q, D, cA, base, al⟩ := z
  obtain - := C
  intro H locs ls hw hS hl
  exact k H locs ls hw hS (th_sub_has h hl)
theorem th_widen (C : th_C l z cc nL own rm ret tb) {kc' ks' : Nat} (h1 : kc ≤ kc') (h2 : ks ≤ ks') (k : th_G l z nL pc lv st mu kc' ks') : th_G l z nL pc lv st mu kc ks := by
  obtain ⟨p, e, R, s, m, args, below, meth, c, Q, D, cA, base, al⟩ := z
  obtain - := C
  intro H locs ls hw hS hl
  exact W.widen h1 h2 (k H locs ls hw hS hl)

def th_ix (x : Int32) (n L : Nat) : Prop := vp_in x L ∧ x.toNatClampNeg = n
theorem th_ix_nI {n L : Nat} (h : n < L) (hL : L < 2 ^ 31) : th_ix (nI n) n L := ⟨vp_in_nI h hL, nI_clamp (Nat.lt_trans h hL)⟩
theorem th_ix.lt {x : Int32} {n L : Nat} (h : th_ix x n L) : n < L := by
  obtain ⟨h1, rfl⟩ := h
  exact Nat.not_le.mp fun q => h1 (Or.inr q)
theorem th_getI (C : th_C l z cc nL own rm ret tb) {t i ci ix kf N : Nat} {Cn : String} {T : u_T} (hd : decode cc pc = .ok (.getfield ix, 3)) (hi : i < mu.1 t) (hk : th_kd t = (0, ci)) (hc : th_Cl[ci]? = some (Cn, T, N)) (hin : ∀ w ∈ u_ws Cn T N, w ∈ th_B) (hkN : kf < N) (hr : th_fr t kf = false) (hlk : Cond.fieldLink own ix (T kf).1 (T kf).2.1 (T kf).2.2.1 ∈ th_B)
    (k : th_G l z nL (pc + 3) lv (.inl (mu.2.1 t i kf) :: st) mu kc ks) : th_G l z nL pc lv (.inr (some (t, i)) :: st) mu kc ks := by
  obtain ⟨p, e, R, s, m, args, below, meth, c, Q, D, cA, base, al⟩ := z
  obtain ⟨hx, hb, hml, hown, hts, hlo, hK, -⟩ := C
  intro H locs ls hw hS hl
  obtain ⟨cell, q1, q2, q3, q4⟩ := th_ck_obj (hw.1 t i hi) hk hc
  obtain ⟨hSl, hfc, kC, hkC, hkind⟩ := hK.1 ci _ hc
  obtain ⟨cf, kff, fi, f, hfi, hsl⟩ := hSl kf hkN
  refine W.getf hx hb hown (hts _ hlk) hfi (u_facts hfc hkC (u_lays hts hin hkN) hfi).1 q1 (by rw [q3]; exact fun h => by cases h) (v := .int (mu.2.1 t i kf)) ?_ rfl rfl hd (k H locs ls hw hS hl)
  rw [hsl, q4 kf hkN]
  simp [th_fv, hr]
theorem th_getR (C : th_C l z cc nL own rm ret tb) {t i ci ix kf N : Nat} {Cn : String} {T : u_T} {v : Option (Nat × Nat)} (hd : decode cc pc = .ok (.getfield ix, 3)) (hi : i < mu.1 t) (hk : th_kd t = (0, ci)) (hc : th_Cl[ci]? = some (Cn, T, N)) (hin : ∀ w ∈ u_ws Cn T N, w ∈ th_B) (hkN : kf < N) (hr : th_fr t kf = true) (hlk : Cond.fieldLink own ix (T kf).1 (T kf).2.1 (T kf).2.2.1 ∈ th_B) (hv : mu.2.2.1 t i kf = v)
    (k : th_G l z nL (pc + 3) lv (.inr v :: st) mu kc ks) : th_G l z nL pc lv (.inr (some (t, i)) :: st) mu kc ks := by
  subst hv
  obtain ⟨p, e, R, s, m, args, below, meth, c, Q, D, cA, base, al⟩ := z
  obtain ⟨hx, hb, hml, hown, hts, hlo, hK, -⟩ := C
  intro H locs ls hw hS hl
  obtain ⟨cell, q1, q2, q3, q4⟩ := th_ck_obj (hw.1 t i hi) hk hc
  obtain ⟨hSl, hfc, kC, hkC, hkind⟩ := hK.1 ci _ hc
  obtain ⟨cf, kff, fi, f, hfi, hsl⟩ := hSl kf hkN
  refine W.getf hx hb hown (hts _ hlk) hfi (u_facts hfc hkC (u_lays hts hin hkN) hfi).1 q1 (by rw [q3]; exact fun h => by cases h) (v := th_cv al (.inr (mu.2.2.1 t i kf))) ?_ rfl rfl hd (k H locs ls hw hS hl)
  rw [hsl, q4 kf hkN]
  simp [th_fv, hr]
theorem th_putI (C : th_C l z cc nL own rm ret tb) {t i ci ix kf N : Nat} {Cn : String} {T : u_T} {v : Int32} (hd : decode cc pc = .ok (.putfield ix, 3)) (hi : i < mu.1 t) (hk : th_kd t = (0, ci)) (hc : th_Cl[ci]? = some (Cn, T, N)) (hin : ∀ w ∈ u_ws Cn T N, w ∈ th_B) (tyf : Nat → FieldType) (hty : ∀ k, k < N → parseFieldDescriptor (T k).2.2.1 = some (tyf k)) (hnm : ∀ a, a < N → ∀ b, b < N → a ≠ b → (T a).2.1 ≠ (T b).2.1) (hkN : kf < N) (hr : th_fr t kf = false) (hlk : Cond.fieldLink own ix (T kf).1 (T kf).2.1 (T kf).2.2.1 ∈ th_B)
    (hfin : (T kf).2.2.2 = false) (hn : narrow (tyf kf) (.int v) = .int v) (hfit : fits (tyf kf) (.int v) = true) (k : th_G l z nL (pc + 3) lv st (mu.1, th_u mu.2.1 t i kf v, mu.2.2) kc ks) : th_G l z nL pc lv (.inl v :: .inr (some (t, i)) :: st) mu kc ks := by
  obtain ⟨p, e, R, s, m, args, below, meth, c, Q, D, cA, base, al⟩ := z
  obtain ⟨hx, hb, hml, hown, hts, hlo, hK, -⟩ := C
  intro H locs ls hw hS hl
  have hap := va_apart (own := own) hts hin tyf hty hnm hK hc
  obtain ⟨cell, q1, q2, q3, q4⟩ := th_ck_obj (hw.1 t i hi) hk hc
  obtain ⟨hSl, hfc, kC, hkC, hkind⟩ := hK.1 ci _ hc
  obtain ⟨cf, kff, fi, f, hfi, hsl⟩ := hSl kf hkN
  have hlay := hts _ (hin _ (u_in_lay hkN))
  unfold u_lay at hlay
  rw [if_neg (by rw [hfin]; decide)] at hlay
  have hst := (u_facts hfc hkC (u_lays hts hin hkN) hfi).1
  have h6 := u_store hfc hkC hkind hlay hfi (hty kf hkN) hn hfit
  refine W.putK hx hb (f := f) ⟨hown, hts _ hlk, ⟨_, _, _, hfi⟩, hst⟩ (by rw [q2]; exact h6) q1 q3 (by rw [hsl]; exact k2_hasslot (q4 kf hkN)) rfl rfl hd fun H' e1 e2 e3 => ?_
  rw [hsl] at e1 ⊢
  refine k H' _ ls ?_ (hS.put e2 e3 (hw.2.2.1 t i hi)) hl
  refine th_W_put hw hi rfl ?_ e3 (fun t' i' h => th_u_ne _ _ _ h) (fun _ _ _ => rfl) rfl e2
  unfold th_ck
  rw [hk]
  refine ⟨_, hc, t_OB.to (V := updV (fun k => th_fv al mu t i k) kf (.int v)) ⟨_, e1, q2, q3, t_set q4 hap hkN (.int v)⟩ (fun j _ => ?_)⟩
  by_cases hj : j = kf
  · subst hj
    simp [updV, th_fv, hr, th_u_self, upd]
  · simp [updV, th_fv, hj, th_u_self, upd]
theorem th_iald (C : th_C l z cc nL own rm ret tb) {t i j n : Nat} {x : Int32} (hd : decode cc pc = .ok (.iaload, 1)) (hi : i < mu.1 t) (hk : th_kd t = (1, j)) (hty : ∀ cA, (th_ty cA)[j]? = some (cA j, .int)) (hin : th_ix x n (mu.2.2.2.1 t i))
    (k : th_G l z nL (pc + 1) lv (.inl (mu.2.1 t i n) :: st) mu kc ks) : th_G l z nL pc lv (.inl x :: .inr (some (t, i)) :: st) mu kc ks := by
  obtain ⟨p, e, R, s, m, args, below, meth, c, Q, D, cA, base, al⟩ := z
  obtain ⟨hx, hb, hml, hown, hts, hlo, hK, -⟩ := C
  intro H locs ls hw hS hl
  have hlt := hin.lt
  obtain ⟨hin, rfl⟩ := hin
  exact W.iald (v := .int (mu.2.1 t i x.toNatClampNeg)) hx hb (th_ck_int (hw.1 t i hi) hk) ((hK.2 j _ (hty cA)).1 _ _) (fun q => by cases q) (by rw [arrV_size]; exact hin) (by rw [arrV_read _ _ hlt]) rfl rfl hd (k H locs ls hw hS hl)
theorem th_iast (C : th_C l z cc nL own rm ret tb) {t i j n : Nat} {x v : Int32} (hd : decode cc pc = .ok (.iastore, 1)) (hi : i < mu.1 t) (hk : th_kd t = (1, j)) (hty : ∀ cA, (th_ty cA)[j]? = some (cA j, .int)) (hin : th_ix x n (mu.2.2.2.1 t i))
    (k : th_G l z nL (pc + 1) lv st (mu.1, th_u mu.2.1 t i n v, mu.2.2) kc ks) : th_G l z nL pc lv (.inl v :: .inl x :: .inr (some (t, i)) :: st) mu kc ks := by
  obtain ⟨p, e, R, s, m, args, below, meth, c, Q, D, cA, base, al⟩ := z
  obtain ⟨hx, hb, hml, hown, hts, hlo, hK, -⟩ := C
  intro H locs ls hw hS hl
  obtain ⟨hin, rfl⟩ := hin
  refine W.iast hx hb (th_ck_int (hw.1 t i hi) hk) ((hK.2 j _ (hty cA)).1 _ _) (fun q => by cases q) (by rw [arrV_size]; exact hin) rfl rfl hd fun H1 e1 e2 e3 => ?_
  refine k H1 _ ls ?_ (hS.put e2 e3 (hw.2.2.1 t i hi)) hl
  refine th_W_put hw hi rfl ?_ e3 (fun t' i' h => th_u_ne _ _ _ h) (fun _ _ _ => rfl) rfl e2
  unfold th_ck
  rw [hk]
  show H1[al t i]? = _
  rw [e1, arrV_store]
  congr 2
  funext q
  show updV _ _ _ q = Value.int (th_u mu.2.1 t i _ v t i q)
  rw [th_u_self]
  by_cases hq : q = x.toNatClampNeg
  · subst hq
    simp [updV, upd]
  · simp [updV, upd, hq]
theorem th_aald (C : th_C l z cc nL own rm ret tb) {t i j n : Nat} {x : Int32} {Cn : String} {v : Option (Nat × Nat)} (hd : decode cc pc = .ok (.aaload, 1)) (hi : i < mu.1 t) (hk : th_kd t = (2, j)) (hty : ∀ cA, (th_ty cA)[j]? = some (cA j, .object Cn)) (hin : th_ix x n (mu.2.2.2.1 t i)) (hv : mu.2.2.1 t i n = v)
    (k : th_G l z nL (pc + 1) lv (.inr v :: st) mu kc ks) : th_G l z nL pc lv (.inl x :: .inr (some (t, i)) :: st) mu kc ks := by
  subst hv
  obtain ⟨p, e, R, s, m, args, below, meth, c, Q, D, cA, base, al⟩ := z
  obtain ⟨hx, hb, hml, hown, hts, hlo, hK, -⟩ := C
  intro H locs ls hw hS hl
  have hlt := hin.lt
  obtain ⟨hin, rfl⟩ := hin
  exact W.aald (v := th_cv al (.inr (mu.2.2.1 t i x.toNatClampNeg))) (ty := .object Cn) hx hb (th_ck_ref (hw.1 t i hi) hk) ((hK.2 j _ (hty cA)).1 _ _) rfl (fun q => by cases q) (by rw [arrV_size]; exact hin) (by rw [arrV_read _ _ hlt]) rfl rfl hd (k H locs ls hw hS hl)
theorem th_alen (C : th_C l z cc nL own rm ret tb) {t i j : Nat} (hd : decode cc pc = .ok (.arraylength, 1)) (hi : i < mu.1 t) (hk : th_kd t = (1, j)) (hty : ∀ cA, (th_ty cA)[j]? = some (cA j, .int))
    (k : th_G l z nL (pc + 1) lv (.inl (nI (mu.2.2.2.1 t i)) :: st) mu kc ks) : th_G l z nL pc lv (.inr (some (t, i)) :: st) mu kc ks := by
  obtain ⟨p, e, R, s, m, args, below, meth, c, Q, D, cA, base, al⟩ := z
  obtain ⟨hx, hb, hml, hown, hts, hlo, hK, -⟩ := C
  intro H locs ls hw hS hl
  exact W.alen hx hb (th_ck_int (hw.1 t i hi) hk) ((hK.2 j _ (hty cA)).1 _ _) (by rw [arrV_size]; rfl) rfl rfl hd (k H locs ls hw hS hl)
theorem th_iret (C : th_C l z cc nL own rm (some .int) tb) {v : Int32} {mc ms : Nat} {Φ : th_P} (hQ : th_Q z Φ mc ms) (hd : decode cc pc = .ok (.ireturn, 1)) (hc : kc ≤ mc) (hs : ks ≤ ms) (h : Φ (.inl (some (.inl v))) mu) : th_G l z nL pc lv [.inl v] mu kc ks := by
  obtain ⟨p, e, R, s, m, args, below, meth, c, Q, D, cA, base, al⟩ := z
  obtain ⟨hx, hb, hml, hown, hts, hlo, hK, hST, hbs, hR, hr, -⟩ := C
  intro H locs ls hw hS hl
  cases hQ
  refine W.widen hc hs (vx_ret ?_)
  exact W.iret hx hb hr (fun t ht hW => ⟨⟨_, _, h, rfl, by rw [ht]; exact hw⟩, hS.F ht⟩) hS.2.2 hd hlo
theorem th_zret (C : th_C l z cc nL own rm (some .boolean) tb) {v : Int32} {mc ms : Nat} {Φ : th_P} (hQ : th_Q z Φ mc ms) (hd : decode cc pc = .ok (.ireturn, 1)) (hn : narrow .boolean (.int v) = .int v) (hc : kc ≤ mc) (hs : ks ≤ ms) (h : Φ (.inl (some (.inl v))) mu) : th_G l z nL pc lv [.inl v] mu kc ks := by
  obtain ⟨p, e, R, s, m, args, below, meth, c, Q, D, cA, base, al⟩ := z
  obtain ⟨hx, hb, hml, hown, hts, hlo, hK, hST, hbs, hR, hr, -⟩ := C
  intro H locs ls hw hS hl
  cases hQ
  refine W.widen hc hs (vx_ret ?_)
  exact W.zret hx hb hr hn (fun t ht hW => ⟨⟨_, _, h, rfl, by rw [ht]; exact hw⟩, hS.F ht⟩) hS.2.2 hd hlo
theorem th_vret (C : th_C l z cc nL own rm none tb) {mc ms : Nat} {Φ : th_P} (hQ : th_Q z Φ mc ms) (hd : decode cc pc = .ok (.return_, 1)) (hc : kc ≤ mc) (hs : ks ≤ ms) (h : Φ (.inl none) mu) : th_G l z nL pc lv [] mu kc ks := by
  obtain ⟨p, e, R, s, m, args, below, meth, c, Q, D, cA, base, al⟩ := z
  obtain ⟨hx, hb, hml, hown, hts, hlo, hK, hST, hbs, hR, hr, -⟩ := C
  intro H locs ls hw hS hl
  cases hQ
  refine W.widen hc hs (vx_ret ?_)
  exact W.vret hx hb hr (fun t ht hW => ⟨⟨_, _, h, rfl, by rw [ht]; exact hw⟩, hS.F ht⟩) hS.2.2 hd hlo
theorem th_outX (C : th_C l z cc nL own rm ret tb) {E : String} {mc ms : Nat} {Φ : th_P} (hQ : th_Q z Φ mc ms) (htb : ∀ x ∈ tb, covers x pc = false) (hc : kc ≤ mc) (hs : ks ≤ ms) (h : Φ (.inr E) mu) : th_X l z nL pc lv E mu kc ks := by
  obtain ⟨p, e, R, s, m, args, below, meth, c, Q, D, cA, base, al⟩ := z
  obtain ⟨hx, hb, hml, hown, hts, hlo, hK, hST, hbs, hR, hr, htt, -⟩ := C
  intro H locs ls rest q ce hw hS hl hce hcv hcl
  cases hQ
  exact vx_out (by rw [htt]; exact htb) hlo hce hcv hcl (fun t ht ha => ⟨⟨_, h, by rw [ht]; exact hw⟩, hS.F ht⟩) hS.2.2 hc hs
theorem th_to {mu' : th_M} {st' : List th_V} (hm : mu' = mu) (hs : st' = st) (k : th_G l z nL pc lv st mu kc ks) : th_G l z nL pc lv st' mu' kc ks := by
  subst hm; subst hs; exact k
theorem th_of {y : MethodName} {mL : Nat} {as : List th_V} {Φ : th_P} (hl : l.stackTraces = false) (hy : plainName y.cls = true) (hn : as.length ≤ mL)
    (body : ∀ z : th_Z, th_C l z cc mL y.cls rm ret [] → th_Q z Φ rm.cells rm.slots → th_N z y.name → th_G l z mL 0 (th_al 0 as) [] mu 0 0) : th_F l y cc mL ret rm as mu Φ := by
  intro D cA base al hal
  refine vx_ofW (cc := cc) (maxL := mL) (ret := ret) hy rfl ?_
  intro p e s m args below meth c s₁ B hml htab hv
  obtain ⟨rfl, hbs, hw, hK, hST⟩ := hv
  have hts := atoms_spec (ws := .code y cc mL ret :: th_B) B.pre
  have hown : s.vm.findClass y.cls = some m.cls := findClass_of_methodNamed B.named
  have hg := body (p, e, (headSpec (.code y cc mL ret :: th_B) rm).room, s, m, (as.map (th_cv al)).toArray, below, meth, c, _, D, cA, base, al)
    ⟨B.exec, B.bytes, hml, hown, fun w h => hts w (List.mem_cons_of_mem _ h), B.notSynchronized, hK, hST, hbs, rfl, B.returns, List.eq_nil_iff_forall_not_mem.mpr (fun x hx => htab x hx), hl, hal⟩ rfl (name_of_methodNamed B.named B.method).1
  rw [lg_entry_eq]
  exact hg s.heap [] _ hw va_S.rf (by rw [← th_al_args]; exact lv_entry (as.map (th_cv al)) (by rw [th_al_len]; exact hn))
def th_okB (own : String) (ix : Nat) (y : MethodName) (cy : ByteArray) (mL : Nat) (rety : Option FieldType) (n : Nat) : Prop :=
  Cond.code y cy mL rety ∈ th_B ∧ Cond.initialized y.cls ∈ th_B ∧ Cond.methodLink own ix y ∈ th_B ∧ y.cls ≠ "java/lang/invoke/MethodHandle" ∧ y.cls ≠ "java/lang/invoke/VarHandle" ∧ (parseMethodDescriptor y.desc).map (fun d => d.parameters.length) = some n
def th_okV (own : String) (ix : Nat) (Cn : String) (y : MethodName) (cy : ByteArray) (mL : Nat) (rety : Option FieldType) (n : Nat) : Prop :=
  th_okB own ix y cy mL rety n ∧ Cond.instanceMethod y ∈ th_B ∧ Cond.selects Cn y y ∈ th_B
def th_okS (own : String) (ix : Nat) (y : MethodName) (cy : ByteArray) (mL : Nat) (rety : Option FieldType) (n : Nat) : Prop :=
  th_okB own ix y cy mL rety n ∧ Cond.static y ∈ th_B
theorem th_callB {R : Room} {s : State} {args : Array Value} {own : String} {ix : Nat} {y : MethodName} {cy : ByteArray} {mL n : Nat} {rety : Option FieldType} {rmy : Room} (hts : ∀ w ∈ th_B, w.before args s = true) (ok : th_okB own ix y cy mL rety n) (hf : rmy.frames + 1 ≤ R.frames) (hlo : 8 + (mL + 11) + rmy.locals ≤ R.locals) :
    CallB R s args own ix y cy mL rety (.code y cy mL rety :: th_B) rmy rmy.cells rmy.slots n := by
  obtain ⟨h1, h2, h3, h4, h5, h6⟩ := ok
  refine ⟨rfl, rfl, hf, hlo, fun w hw a' U hW => ?_, List.mem_cons_self, hts _ h1, hts _ h2, ⟨h4, h5⟩, fun sig h => ?_, hts _ h3⟩
  · have hm : w ∈ th_B := by
      rcases List.mem_cons.mp hw with rfl | h
      · exact h1
      · exact h
    exact word_at hW (good_of_word (List.mem_filter.mp hm).2) (hts w hm)
  · rw [h] at h6
    exact (Option.some.inj h6).symm
theorem th_Pc_blind {D : va_G} {cA : Nat → ClassId} {base : Nat} {al : th_A} {as : List th_V} : FrameBlind (th_Pc D cA base al as mu) := by
  intro a U g mk q
  obtain ⟨q0, q1, q2, q3, q4⟩ := q
  exact ⟨q0, q1, q2, va_K.moved (u := U) (U := U.calling g mk a) (Vm.Alike.refl U.vm) q3, th_S_moved (u := U) (U := U.calling g mk a) (State.WarmedH.refl U) q4⟩
theorem th_Pc_at {D : va_G} {cA : Nat → ClassId} {base : Nat} {al : th_A} {as : List th_V} {s U : State} {H : Heap} {locs : List Loc} (hU : U.heap = H) (hW : s.WarmedH U.vm) (hbs : base ≤ s.heap.size) (hw : th_W D cA base al mu H) (hK : va_K D th_Cl (th_ty cA) s) (hST : th_S base al s s.heap) (hS : va_S (fun q => base ≤ q) s.heap H locs) : th_Pc D cA base al as mu (as.map (th_cv al)).toArray U := by
  subst hU
  exact ⟨rfl, Nat.le_trans hbs hS.1, hw, va_K.moved hW.alike hK, th_S_moved hW (th_S_kept hST hS.2.1)⟩
theorem th_cat_sum (al : th_A) : ∀ st : List th_V, ((st.map (th_cv al)).map fun v => v.category).sum = st.length
  | [] => rfl
  | v :: st => by
    have h := th_cat_sum al st
    simp only [List.map_cons, List.sum_cons, th_cv_cat, List.length_cons, h]
    omega
def th_okR (rmy rm : Room) (mL kc ks : Nat) : Bool := Nat.ble (rmy.frames + 1) rm.frames && Nat.ble (8 + (mL + 11) + rmy.locals) rm.locals && Nat.ble (kc + rmy.cells) rm.cells && Nat.ble (ks + rmy.slots) rm.slots
theorem th_okR_of {rmy rm : Room} {mL kc ks : Nat} (h : th_okR rmy rm mL kc ks = true) : (rmy.frames + 1 ≤ rm.frames ∧ 8 + (mL + 11) + rmy.locals ≤ rm.locals) ∧ kc + rmy.cells ≤ rm.cells ∧ ks + rmy.slots ≤ rm.slots := by
  simp only [th_okR, Bool.and_eq_true, Nat.ble_eq] at h
  exact ⟨⟨h.1.1.1, h.1.1.2⟩, h.1.2, h.2⟩
theorem th_core {p : Program} {e : Env} {R : Room} {s : State} {m : MethodId} {args : Array Value} {below : List Frame} {meth : Method} {c : Code} {Q : State → Prop} {D : va_G} {cA : Nat → ClassId} {base : Nat} {al : th_A} {H : Heap} {locs : List Loc} {ls : Array Slot} {mc ms : Nat} {stk : List Value} {a : Array Value} {Φ : th_P}
    (hr : vx_Run p l e R s m args below meth c H locs kc ks mc ms (F0 m pc ls stk) (st.map (th_cv al)) (th_Qc D cA base al Φ a) (th_Xc D cA base al Φ) (fun q => base ≤ q))
    (hS : va_S (fun q => base ≤ q) s.heap H locs) (hl : lv_has ls nL (lv.map fun q => (q.1, th_cv al q.2)))
    (k : ∀ v mu', Φ (.inl v) mu' → th_G l (p, e, R, s, m, args, below, meth, c, Q, D, cA, base, al) nL (pc + 3) lv (v.toList ++ st) mu' (kc + mc) (ks + ms))
    (kx : ∀ E mu', Φ (.inr E) mu' → th_X l (p, e, R, s, m, args, below, meth, c, Q, D, cA, base, al) nL pc lv E mu' (kc + mc) (ks + ms)) : W p l e R s m args below meth c H locs kc ks Q (F0 m pc ls stk) := by
  intro T hT X
  rcases hr T hT X with ⟨v', st₀, t, T', L, h0, X', hL, e1, e2, ⟨⟨v, mu', ho, hv, hw⟩, hF⟩, stp⟩ | ⟨q, st₀, t, T', L, E, ce, h0, X', hL, e1, e2, ⟨⟨mu', ho, hw⟩, hF⟩, hce, hcv, hcl, stp⟩
  · cases hv
    obtain ⟨k1, k2, k3⟩ := vx_keep h0 e1 hS (fun q _ h => h) (fun q h => h) hL hF
    obtain ⟨t2, a1, b1⟩ := k v mu' ho T'.heap (locs ++ L) ls (by rw [e1]; exact hw) k3 hl T' rfl X'
    refine ⟨t2, stp t2 ?_, b1⟩
    cases v <;> exact a1
  · obtain ⟨k1, k2, k3⟩ := vx_keep h0 e1 hS (fun q _ h => h) (fun q h => h) hL hF
    obtain ⟨t2, a1, b1⟩ := kx E mu' ho T'.heap (locs ++ L) ls (st.map (th_cv al)) q ce (by rw [e1]; exact hw) k3 hl (by rw [e1]; exact hce) hcv hcl T' rfl X'
    exact ⟨t2, stp.trans a1, b1⟩
theorem th_runV {p : Program} {e : Env} {R : Room} {s : State} {m : MethodId} {args : Array Value} {below : List Frame} {meth : Method} {c : Code} {Q : State → Prop} {D : va_G} {cA : Nat → ClassId} {base : Nat} {al : th_A} {H : Heap} {locs : List Loc} {ls : Array Slot} {y : MethodName} {cy : ByteArray} {mL : Nat} {rety : Option FieldType} {rmy : Room} {as : List th_V} {Φ : th_P} {t i ci ix N : Nat} {Cn : String} {T : u_T} {stk : List th_V}
    (C : th_C l (p, e, R, s, m, args, below, meth, c, Q, D, cA, base, al) cc nL own rm ret tb) (hw : th_W D cA base al mu H) (hS : va_S (fun q => base ≤ q) s.heap H locs) (hl : lv_has ls nL (lv.map fun q => (q.1, th_cv al q.2)))
    (hM : th_F l y cy mL rety rmy (.inr (some (t, i)) :: as) mu Φ) (ok : th_okV own ix Cn y cy mL rety as.length) (hrm : th_okR rmy rm mL kc ks = true) (hi : i < mu.1 t) (hk : th_kd t = (0, ci)) (hc : th_Cl[ci]? = some (Cn, T, N)) (hst : st.length ≤ 8) (hd : decode cc pc = .ok (.invokevirtual ix, 3)) (hstk : as.reverse ++ .inr (some (t, i)) :: st = stk) :
    ∃ a, vx_Run p l e R s m args below meth c H locs kc ks rmy.cells rmy.slots (F0 m pc ls (stk.map (th_cv al))) (st.map (th_cv al)) (th_Qc D cA base al Φ a) (th_Xc D cA base al Φ) (fun q => base ≤ q) := by
  obtain ⟨hx, hb, hml, hown, hts, hlo, hK, hST, hbs, hR, hr, htb, htr, hal⟩ := C
  subst hstk
  subst hR
  obtain ⟨⟨hf1, hf2⟩, hf3, hf4⟩ := th_okR_of hrm
  obtain ⟨ok1, ok2, ok3⟩ := ok
  obtain ⟨cell, q1, q2, q3, q4⟩ := th_ck_obj (hw.1 t i hi) hk hc
  obtain ⟨hSl, hfc, kC, hkC, hkind⟩ := hK.1 ci _ hc
  exact ⟨_, vx_runV (C := Cn) (b := al t i) (As := as.map (th_cv al)) ⟨hx, hb, hml, hown, hts⟩ (hM D cA base al hal) ⟨th_callB hts ok1 hf1 hf2, hts _ ok2, hts _ ok3⟩ ⟨th_Pc_blind, ⟨cell, q1, by rw [q3]; rfl, by rw [q2]; exact hfc⟩, fun U hU hW => th_Pc_at hU hW hbs hw hK hST hS⟩ rfl (by simp) hl.1 (by simp [th_cv]) (lv_room (by rw [th_cat_sum]; exact hst)) hd ⟨hf3, hf4⟩⟩
theorem th_runS {p : Program} {e : Env} {R : Room} {s : State} {m : MethodId} {args : Array Value} {below : List Frame} {meth : Method} {c : Code} {Q : State → Prop} {D : va_G} {cA : Nat → ClassId} {base : Nat} {al : th_A} {H : Heap} {locs : List Loc} {ls : Array Slot} {y : MethodName} {cy : ByteArray} {mL : Nat} {rety : Option FieldType} {rmy : Room} {as : List th_V} {Φ : th_P} {ix : Nat} {stk : List th_V}
    (C : th_C l (p, e, R, s, m, args, below, meth, c, Q, D, cA, base, al) cc nL own rm ret tb) (hw : th_W D cA base al mu H) (hS : va_S (fun q => base ≤ q) s.heap H locs) (hl : lv_has ls nL (lv.map fun q => (q.1, th_cv al q.2)))
    (hM : th_F l y cy mL rety rmy as mu Φ) (ok : th_okS own ix y cy mL rety as.length) (hrm : th_okR rmy rm mL kc ks = true) (hst : st.length ≤ 8) (hd : decode cc pc = .ok (.invokestatic ix, 3)) (hstk : as.reverse ++ st = stk) :
    ∃ a, vx_Run p l e R s m args below meth c H locs kc ks rmy.cells rmy.slots (F0 m pc ls (stk.map (th_cv al))) (st.map (th_cv al)) (th_Qc D cA base al Φ a) (th_Xc D cA base al Φ) (fun q => base ≤ q) := by
  obtain ⟨hx, hb, hml, hown, hts, hlo, hK, hST, hbs, hR, hr, htb, htr, hal⟩ := C
  subst hstk
  subst hR
  obtain ⟨⟨hf1, hf2⟩, hf3, hf4⟩ := th_okR_of hrm
  obtain ⟨ok1, ok2⟩ := ok
  exact ⟨_, vx_runS (As := as.map (th_cv al)) ⟨hx, hb, hml, hown, hts⟩ (hM D cA base al hal) ⟨th_callB hts ok1 hf1 hf2, hts _ ok2⟩ ⟨th_Pc_blind, fun U hU hW => th_Pc_at hU hW hbs hw hK hST hS⟩ rfl (by simp) hl.1 (by simp) (lv_room (by rw [th_cat_sum]; exact hst)) hd ⟨hf3, hf4⟩⟩
theorem th_callV {y : MethodName} {cy : ByteArray} {mL : Nat} {rety : Option FieldType} {rmy : Room} {as : List th_V} {Φ : th_P} {t i ci ix N : Nat} {Cn : String} {T : u_T} {stk : List th_V} (C : th_C l z cc nL own rm ret tb)
    (hM : th_F l y cy mL rety rmy (.inr (some (t, i)) :: as) mu Φ) (ok : th_okV own ix Cn y cy mL rety as.length) (hrm : th_okR rmy rm mL kc ks = true) (hi : i < mu.1 t) (hk : th_kd t = (0, ci)) (hc : th_Cl[ci]? = some (Cn, T, N)) (hst : st.length ≤ 8) (hd : decode cc pc = .ok (.invokevirtual ix, 3)) (hstk : as.reverse ++ .inr (some (t, i)) :: st = stk)
    (kx : ∀ E mu', Φ (.inr E) mu' → th_X l z nL pc lv E mu' (kc + rmy.cells) (ks + rmy.slots))
    (k : ∀ v mu', Φ (.inl v) mu' → th_G l z nL (pc + 3) lv (v.toList ++ st) mu' (kc + rmy.cells) (ks + rmy.slots)) : th_G l z nL pc lv stk mu kc ks := by
  obtain ⟨p, e, R, s, m, args, below, meth, c, Q, D, cA, base, al⟩ := z
  intro H locs ls hw hS hl
  obtain ⟨a, hr⟩ := th_runV C hw hS hl hM ok hrm hi hk hc hst hd hstk
  exact th_core hr hS hl k kx
theorem th_callS {y : MethodName} {cy : ByteArray} {mL : Nat} {rety : Option FieldType} {rmy : Room} {as : List th_V} {Φ : th_P} {ix : Nat} {stk : List th_V} (C : th_C l z cc nL own rm ret tb)
    (hM : th_F l y cy mL rety rmy as mu Φ) (ok : th_okS own ix y cy mL rety as.length) (hrm : th_okR rmy rm mL kc ks = true) (hst : st.length ≤ 8) (hd : decode cc pc = .ok (.invokestatic ix, 3)) (hstk : as.reverse ++ st = stk)
    (kx : ∀ E mu', Φ (.inr E) mu' → th_X l z nL pc lv E mu' (kc + rmy.cells) (ks + rmy.slots))
    (k : ∀ v mu', Φ (.inl v) mu' → th_G l z nL (pc + 3) lv (v.toList ++ st) mu' (kc + rmy.cells) (ks + rmy.slots)) : th_G l z nL pc lv stk mu kc ks := by
  obtain ⟨p, e, R, s, m, args, below, meth, c, Q, D, cA, base, al⟩ := z
  intro H locs ls hw hS hl
  obtain ⟨a, hr⟩ := th_runS C hw hS hl hM ok hrm hst hd hstk
  exact th_core hr hS hl k kx
end BaseRows
end
section
def th_cl (t ci : Nat) (Cn : String) (T : u_T) (N : Nat) (ty : Nat → FieldType) : Prop :=
  th_kd t = (0, ci) ∧ th_Cl[ci]? = some (Cn, T, N) ∧ (∀ w ∈ u_ws Cn T N, w ∈ th_B) ∧ (∀ k, k < N → parseFieldDescriptor (T k).2.2.1 = some (ty k)) ∧ (∀ a, a < N → ∀ b, b < N → a ≠ b → (T a).2.1 ≠ (T b).2.1)
def th_fd (own : String) (ix : Nat) (T : u_T) (N kf : Nat) : Prop := kf < N ∧ Cond.fieldLink own ix (T kf).1 (T kf).2.1 (T kf).2.2.1 ∈ th_B
theorem th_toInt_add {x y : Int32} (h1 : -2147483648 ≤ x.toInt + y.toInt) (h2 : x.toInt + y.toInt ≤ 2147483647) : (x + y).toInt = x.toInt + y.toInt := by
  rw [Int32.toInt_add]
  exact Int.bmod_eq_of_le (by omega) (by omega)
theorem th_toInt_sub {x y : Int32} (h1 : -2147483648 ≤ x.toInt - y.toInt) (h2 : x.toInt - y.toInt ≤ 2147483647) : (x - y).toInt = x.toInt - y.toInt := by
  rw [Int32.toInt_sub]
  exact Int.bmod_eq_of_le (by omega) (by omega)
theorem th_lt (x : Int32) : -2147483648 ≤ x.toInt ∧ x.toInt ≤ 2147483647 := by
  have h1 := Int32.le_toInt x
  have h2 := Int32.toInt_lt x
  omega
theorem th_z0 : (0 : Int32).toInt = 0 := by decide
theorem th_eqi {x y : Int32} (h : x.toInt = y.toInt) : x = y := Int32.toInt_inj.mp h
theorem th_u_eq (I : th_I) (t i k : Nat) (v : Int32) : th_u I t i k v t i k = v := by simp [th_u, upd]
theorem th_u_tag {I : th_I} {t i k t' i' k' : Nat} {v : Int32} (h : t' ≠ t) : th_u I t i k v t' i' k' = I t' i' k' := by
  simp [th_u, h]
theorem th_u_slot {I : th_I} {t i k i' k' : Nat} {v : Int32} (h : k' ≠ k) : th_u I t i k v t i' k' = I t i' k' := by
  unfold th_u
  split
  · rename_i q
    obtain ⟨-, rfl⟩ := q
    simp [upd, h]
  · rfl
theorem th_u_idx {I : th_I} {t i k i' k' : Nat} {v : Int32} (h : i' ≠ i) : th_u I t i k v t i' k' = I t i' k' := by
  simp [th_u, h]
theorem th_u_or (I : th_I) (t i k : Nat) (v : Int32) (t' i' k' : Nat) : (t' = t ∧ i' = i ∧ k' = k ∧ th_u I t i k v t' i' k' = v) ∨ th_u I t i k v t' i' k' = I t' i' k' := by
  by_cases h1 : t' = t
  · by_cases h2 : i' = i
    · by_cases h3 : k' = k
      · subst h1; subst h2; subst h3
        exact Or.inl ⟨rfl, rfl, rfl, th_u_eq _ _ _ _ _⟩
      · subst h1
        exact Or.inr (th_u_slot h3)
    · subst h1
      exact Or.inr (th_u_idx h2)
  · exact Or.inr (th_u_tag h1)
section TQ
variable {l : Launch} {z : th_Z} {cc : ByteArray} {nL pc kc ks : Nat} {own : String} {rm : Room} {ret : Option FieldType} {tb : List ExceptionTableEntry} {lv : List (Nat × th_V)} {st : List th_V} {I : th_I} {mu : th_M}
theorem th_gen {P : th_I → Prop} (h : P I) (k : ∀ J, P J → th_G l z nL pc lv st (th_m J) kc ks) : th_G l z nL pc lv st (th_m I) kc ks := k I h
theorem tq_getI (C : th_C l z cc nL own rm ret tb) {t i ci ix kf N : Nat} {Cn : String} {T : u_T} {ty : Nat → FieldType} (hd : decode cc pc = .ok (.getfield ix, 3)) (K : th_cl t ci Cn T N ty) (F : th_fd own ix T N kf) (hr : th_fr t kf = false) (hi : i < th_cn t)
    (k : ∀ x : Int32, x = I t i kf → th_G l z nL (pc + 3) lv (.inl x :: st) (th_m I) kc ks) : th_G l z nL pc lv (.inr (some (t, i)) :: st) (th_m I) kc ks :=
  th_getI (mu := th_m I) C hd hi K.1 K.2.1 K.2.2.1 F.1 hr F.2 (k _ rfl)
theorem tq_getIe (C : th_C l z cc nL own rm ret tb) {t i ci ix kf N : Nat} {Cn : String} {T : u_T} {ty : Nat → FieldType} {x : Int32} (hd : decode cc pc = .ok (.getfield ix, 3)) (K : th_cl t ci Cn T N ty) (F : th_fd own ix T N kf) (hr : th_fr t kf = false) (hi : i < th_cn t) (hx : x = I t i kf)
    (k : th_G l z nL (pc + 3) lv (.inl x :: st) (th_m I) kc ks) : th_G l z nL pc lv (.inr (some (t, i)) :: st) (th_m I) kc ks :=
  th_getI (mu := th_m I) C hd hi K.1 K.2.1 K.2.2.1 F.1 hr F.2 (by subst hx; exact k)
theorem tq_getR (C : th_C l z cc nL own rm ret tb) {t i ci ix kf N : Nat} {Cn : String} {T : u_T} {ty : Nat → FieldType} {q : Nat × Nat} (hd : decode cc pc = .ok (.getfield ix, 3)) (K : th_cl t ci Cn T N ty) (F : th_fd own ix T N kf) (hr : th_fr t kf = true) (hi : i < th_cn t) (hv : th_P0 t i kf = some q)
    (k : th_G l z nL (pc + 3) lv (.inr (some q) :: st) (th_m I) kc ks) : th_G l z nL pc lv (.inr (some (t, i)) :: st) (th_m I) kc ks :=
  th_getR (mu := th_m I) C hd hi K.1 K.2.1 K.2.2.1 F.1 hr F.2 hv k
theorem tq_putI (C : th_C l z cc nL own rm ret tb) {t i ci ix kf N : Nat} {Cn : String} {T : u_T} {ty : Nat → FieldType} {v : Int32} (hd : decode cc pc = .ok (.putfield ix, 3)) (K : th_cl t ci Cn T N ty) (F : th_fd own ix T N kf) (hr : th_fr t kf = false) (hi : i < th_cn t) (hfin : (T kf).2.2.2 = false) (hty : ty kf = .int)
    (k : th_G l z nL (pc + 3) lv st (th_m (th_u I t i kf v)) kc ks) : th_G l z nL pc lv (.inl v :: .inr (some (t, i)) :: st) (th_m I) kc ks :=
  th_putI (mu := th_m I) C hd hi K.1 K.2.1 K.2.2.1 ty K.2.2.2.1 K.2.2.2.2 F.1 hr F.2 hfin (by rw [hty]; rfl) (by rw [hty]; rfl) k
theorem tq_putZ (C : th_C l z cc nL own rm ret tb) {t i ci ix kf N : Nat} {Cn : String} {T : u_T} {ty : Nat → FieldType} {v : Int32} (hd : decode cc pc = .ok (.putfield ix, 3)) (K : th_cl t ci Cn T N ty) (F : th_fd own ix T N kf) (hr : th_fr t kf = false) (hi : i < th_cn t) (hfin : (T kf).2.2.2 = false) (hty : ty kf = .boolean) (hv : narrow .boolean (.int v) = .int v) (hft : fits .boolean (.int v) = true)
    (k : th_G l z nL (pc + 3) lv st (th_m (th_u I t i kf v)) kc ks) : th_G l z nL pc lv (.inl v :: .inr (some (t, i)) :: st) (th_m I) kc ks :=
  th_putI (mu := th_m I) C hd hi K.1 K.2.1 K.2.2.1 ty K.2.2.2.1 K.2.2.2.2 F.1 hr F.2 hfin (by rw [hty]; exact hv) (by rw [hty]; exact hft) k
theorem th_ix_of {x : Int32} {a : Int} {L : Nat} (hx : x.toInt = a) (h0 : 0 ≤ a) (h1 : a < (L : Int)) : ∃ n : Nat, th_ix x n L ∧ (n : Int) = a ∧ n < L := by
  subst hx
  have hn : x.toNatClampNeg = x.toInt.toNat := rfl
  refine ⟨x.toInt.toNat, ⟨?_, hn⟩, by omega, by omega⟩
  rintro (h | h)
  · rw [Int32.lt_iff_toInt_lt] at h
    have h2 : (0 : Int32).toInt = 0 := by decide
    omega
  · rw [hn] at h
    omega
theorem tq_iald (C : th_C l z cc nL own rm ret tb) {t i j : Nat} {x : Int32} {a : Int} (hd : decode cc pc = .ok (.iaload, 1)) (hk : th_kd t = (1, j)) (hty : ∀ cA, (th_ty cA)[j]? = some (cA j, .int)) (hi : i < th_cn t) (hx : x.toInt = a) (h0 : 0 ≤ a) (h1 : a < (th_L0 t i : Int))
    (k : ∀ (n : Nat) (y : Int32), (n : Int) = a → n < th_L0 t i → y = I t i n → th_G l z nL (pc + 1) lv (.inl y :: st) (th_m I) kc ks) : th_G l z nL pc lv (.inl x :: .inr (some (t, i)) :: st) (th_m I) kc ks := by
  obtain ⟨n, h2, h3, h4⟩ := th_ix_of hx h0 h1
  exact th_iald (mu := th_m I) C hd hi hk hty h2 (k n _ h3 h4 rfl)
theorem tq_iast (C : th_C l z cc nL own rm ret tb) {t i j : Nat} {x v : Int32} {a : Int} (hd : decode cc pc = .ok (.iastore, 1)) (hk : th_kd t = (1, j)) (hty : ∀ cA, (th_ty cA)[j]? = some (cA j, .int)) (hi : i < th_cn t) (hx : x.toInt = a) (h0 : 0 ≤ a) (h1 : a < (th_L0 t i : Int))
    (k : ∀ n : Nat, (n : Int) = a → n < th_L0 t i → th_G l z nL (pc + 1) lv st (th_m (th_u I t i n v)) kc ks) : th_G l z nL pc lv (.inl v :: .inl x :: .inr (some (t, i)) :: st) (th_m I) kc ks := by
  obtain ⟨n, h2, h3, h4⟩ := th_ix_of hx h0 h1
  exact th_iast (mu := th_m I) C hd hi hk hty h2 (k n h3 h4)
theorem tq_aald (C : th_C l z cc nL own rm ret tb) {t i j : Nat} {x : Int32} {a : Int} {Cn : String} {q : Nat → Nat × Nat} (hd : decode cc pc = .ok (.aaload, 1)) (hk : th_kd t = (2, j)) (hty : ∀ cA, (th_ty cA)[j]? = some (cA j, .object Cn)) (hi : i < th_cn t) (hx : x.toInt = a) (h0 : 0 ≤ a) (h1 : a < (th_L0 t i : Int)) (hv : ∀ n, th_P0 t i n = some (q n))
    (k : ∀ n : Nat, (n : Int) = a → n < th_L0 t i → th_G l z nL (pc + 1) lv (.inr (some (q n)) :: st) (th_m I) kc ks) : th_G l z nL pc lv (.inl x :: .inr (some (t, i)) :: st) (th_m I) kc ks := by
  obtain ⟨n, h2, h3, h4⟩ := th_ix_of hx h0 h1
  exact th_aald (mu := th_m I) C hd hi hk hty h2 (hv n) (k n h3 h4)
theorem th_ixN {x : Int32} {a : Int} {n L : Nat} (hx : x.toInt = a) (hn : (n : Int) = a) (h1 : n < L) : th_ix x n L := by
  obtain ⟨m, h2, h3, h4⟩ := th_ix_of (L := L) hx (by omega) (by omega)
  have : m = n := by omega
  rw [← this]
  exact h2
theorem tq_ialdN (C : th_C l z cc nL own rm ret tb) {t i j n : Nat} {x : Int32} {a : Int} (hd : decode cc pc = .ok (.iaload, 1)) (hk : th_kd t = (1, j)) (hty : ∀ cA, (th_ty cA)[j]? = some (cA j, .int)) (hi : i < th_cn t) (hx : x.toInt = a) (hn : (n : Int) = a) (h1 : n < th_L0 t i)
    (k : ∀ y : Int32, y = I t i n → th_G l z nL (pc + 1) lv (.inl y :: st) (th_m I) kc ks) : th_G l z nL pc lv (.inl x :: .inr (some (t, i)) :: st) (th_m I) kc ks :=
  th_iald (mu := th_m I) C hd hi hk hty (th_ixN hx hn h1) (k _ rfl)
theorem tq_ialdE (C : th_C l z cc nL own rm ret tb) {t i j n : Nat} {x y : Int32} {a : Int} (hd : decode cc pc = .ok (.iaload, 1)) (hk : th_kd t = (1, j)) (hty : ∀ cA, (th_ty cA)[j]? = some (cA j, .int)) (hi : i < th_cn t) (hx : x.toInt = a) (hn : (n : Int) = a) (h1 : n < th_L0 t i) (hy : y = I t i n)
    (k : th_G l z nL (pc + 1) lv (.inl y :: st) (th_m I) kc ks) : th_G l z nL pc lv (.inl x :: .inr (some (t, i)) :: st) (th_m I) kc ks :=
  th_iald (mu := th_m I) C hd hi hk hty (th_ixN hx hn h1) (by subst hy; exact k)
theorem tq_iastN (C : th_C l z cc nL own rm ret tb) {t i j n : Nat} {x v : Int32} {a : Int} (hd : decode cc pc = .ok (.iastore, 1)) (hk : th_kd t = (1, j)) (hty : ∀ cA, (th_ty cA)[j]? = some (cA j, .int)) (hi : i < th_cn t) (hx : x.toInt = a) (hn : (n : Int) = a) (h1 : n < th_L0 t i)
    (k : th_G l z nL (pc + 1) lv st (th_m (th_u I t i n v)) kc ks) : th_G l z nL pc lv (.inl v :: .inl x :: .inr (some (t, i)) :: st) (th_m I) kc ks :=
  th_iast (mu := th_m I) C hd hi hk hty (th_ixN hx hn h1) k
theorem tq_aaldN (C : th_C l z cc nL own rm ret tb) {t i j n : Nat} {x : Int32} {a : Int} {Cn : String} {q : Nat → Nat × Nat} (hd : decode cc pc = .ok (.aaload, 1)) (hk : th_kd t = (2, j)) (hty : ∀ cA, (th_ty cA)[j]? = some (cA j, .object Cn)) (hi : i < th_cn t) (hx : x.toInt = a) (hn : (n : Int) = a) (h1 : n < th_L0 t i) (hv : ∀ n, th_P0 t i n = some (q n))
    (k : th_G l z nL (pc + 1) lv (.inr (some (q n)) :: st) (th_m I) kc ks) : th_G l z nL pc lv (.inl x :: .inr (some (t, i)) :: st) (th_m I) kc ks :=
  th_aald (mu := th_m I) C hd hi hk hty (th_ixN hx hn h1) (hv n) k
theorem th_nat {a : Int} (h : 0 ≤ a) : ∃ n : Nat, (n : Int) = a := ⟨a.toNat, by omega⟩
theorem tq_imul (C : th_C l z cc nL own rm ret tb) {x y : Int32} {a b : Int} (hd : decode cc pc = .ok (.imul, 1)) (hx : x.toInt = a) (hy : y.toInt = b)
    (k : ∀ r : Int32, r = x * y → (-2147483648 ≤ a * b ∧ a * b ≤ 2147483647 → r.toInt = a * b) → th_G l z nL (pc + 1) lv (.inl r :: st) mu kc ks) : th_G l z nL pc lv (.inl y :: .inl x :: st) mu kc ks := by
  subst hx; subst hy
  refine th_imul C hd (k _ rfl (fun h => ?_))
  rw [Int32.toInt_mul]
  exact Int.bmod_eq_of_le (by omega) (by omega)
theorem tq_alen (C : th_C l z cc nL own rm ret tb) {t i j : Nat} {v : Int32} (hd : decode cc pc = .ok (.arraylength, 1)) (hk : th_kd t = (1, j)) (hty : ∀ cA, (th_ty cA)[j]? = some (cA j, .int)) (hi : i < th_cn t) (hv : nI (th_L0 t i) = v)
    (k : th_G l z nL (pc + 1) lv (.inl v :: st) (th_m I) kc ks) : th_G l z nL pc lv (.inr (some (t, i)) :: st) (th_m I) kc ks := by
  subst hv
  exact th_alen (mu := th_m I) C hd hi hk hty k
theorem tq_iadd (C : th_C l z cc nL own rm ret tb) {x y : Int32} {a b : Int} (hd : decode cc pc = .ok (.iadd, 1)) (hx : x.toInt = a) (hy : y.toInt = b)
    (k : ∀ r : Int32, r = x + y → (-2147483648 ≤ a + b ∧ a + b ≤ 2147483647 → r.toInt = a + b) → th_G l z nL (pc + 1) lv (.inl r :: st) mu kc ks) : th_G l z nL pc lv (.inl y :: .inl x :: st) mu kc ks := by
  subst hx; subst hy
  exact th_iadd C hd (k _ rfl (fun h => th_toInt_add h.1 h.2))
theorem tq_isub (C : th_C l z cc nL own rm ret tb) {x y : Int32} {a b : Int} (hd : decode cc pc = .ok (.isub, 1)) (hx : x.toInt = a) (hy : y.toInt = b)
    (k : ∀ r : Int32, r = x - y → (-2147483648 ≤ a - b ∧ a - b ≤ 2147483647 → r.toInt = a - b) → th_G l z nL (pc + 1) lv (.inl r :: st) mu kc ks) : th_G l z nL pc lv (.inl y :: .inl x :: st) mu kc ks := by
  subst hx; subst hy
  exact th_isub C hd (k _ rfl (fun h => th_toInt_sub h.1 h.2))
theorem tq_ineg (C : th_C l z cc nL own rm ret tb) {x : Int32} (hd : decode cc pc = .ok (.ineg, 1))
    (k : ∀ r : Int32, r = -x → th_G l z nL (pc + 1) lv (.inl r :: st) mu kc ks) : th_G l z nL pc lv (.inl x :: st) mu kc ks :=
  th_ineg C hd (k _ rfl)
theorem tq_iinc (C : th_C l z cc nL own rm ret tb) {i : Nat} {n : Int} {x w : Int32} {a b : Int} {lv' : Int32 → List (Nat × th_V)} (hd : decode cc pc = .ok (.iinc i n, 3)) (hx0 : th_lk lv i = some (.inl x)) (hn : i < nL) (hw : Int32.ofInt n = w) (hx : x.toInt = a) (hb : w.toInt = b) (h : ∀ r, th_st lv i (.inl r) = lv' r)
    (k : ∀ r : Int32, r = x + w → (-2147483648 ≤ a + b ∧ a + b ≤ 2147483647 → r.toInt = a + b) → th_G l z nL (pc + 3) (lv' r) st mu kc ks) : th_G l z nL pc lv st mu kc ks := by
  subst hx; subst hb; subst hw
  exact th_iinc C hd hx0 rfl hn (h _) (k _ rfl (fun q => th_toInt_add q.1 q.2))
theorem tq_if_eq (C : th_C l z cc nL own rm ret tb) {x : Int32} {a : Int} {off : Int} {tgt : Nat} (hd : decode cc pc = .ok (.ifCond .eq off, 3)) (ht : (pc : Int) + off = (tgt : Int)) (hx : x.toInt = a)
    (kt : a = 0 → th_G l z nL tgt lv st mu kc ks) (kf : ¬ (a = 0) → th_G l z nL (pc + 3) lv st mu kc ks) : th_G l z nL pc lv (.inl x :: st) mu kc ks := by
  subst hx
  exact th_if_eq C hd ht (fun h => kt (by subst h; exact th_z0)) (fun h => kf (fun q => h (th_eqi (q.trans th_z0.symm))))
theorem tq_icmp_eq (C : th_C l z cc nL own rm ret tb) {x y : Int32} {a b : Int} {off : Int} {tgt : Nat} (hd : decode cc pc = .ok (.if_icmp .eq off, 3)) (ht : (pc : Int) + off = (tgt : Int)) (hx : x.toInt = a) (hy : y.toInt = b)
    (kt : a = b → th_G l z nL tgt lv st mu kc ks) (kf : ¬ (a = b) → th_G l z nL (pc + 3) lv st mu kc ks) : th_G l z nL pc lv (.inl y :: .inl x :: st) mu kc ks := by
  subst hx; subst hy
  exact th_icmp_eq C hd ht (fun h => kt (by rw [h])) (fun h => kf (fun q => h (th_eqi q)))
theorem tq_if_ne (C : th_C l z cc nL own rm ret tb) {x : Int32} {a : Int} {off : Int} {tgt : Nat} (hd : decode cc pc = .ok (.ifCond .ne off, 3)) (ht : (pc : Int) + off = (tgt : Int)) (hx : x.toInt = a)
    (kt : a ≠ 0 → th_G l z nL tgt lv st mu kc ks) (kf : ¬ (a ≠ 0) → th_G l z nL (pc + 3) lv st mu kc ks) : th_G l z nL pc lv (.inl x :: st) mu kc ks := by
  subst hx
  exact th_if_ne C hd ht (fun h => kt (fun q => h (th_eqi (q.trans th_z0.symm)))) (fun h => kf (fun q => q (by subst h; exact th_z0)))
theorem tq_icmp_ne (C : th_C l z cc nL own rm ret tb) {x y : Int32} {a b : Int} {off : Int} {tgt : Nat} (hd : decode cc pc = .ok (.if_icmp .ne off, 3)) (ht : (pc : Int) + off = (tgt : Int)) (hx : x.toInt = a) (hy : y.toInt = b)
    (kt : a ≠ b → th_G l z nL tgt lv st mu kc ks) (kf : ¬ (a ≠ b) → th_G l z nL (pc + 3) lv st mu kc ks) : th_G l z nL pc lv (.inl y :: .inl x :: st) mu kc ks := by
  subst hx; subst hy
  exact th_icmp_ne C hd ht (fun h => kt (fun q => h (th_eqi q))) (fun h => kf (fun q => q (by rw [h])))
theorem tq_if_lt (C : th_C l z cc nL own rm ret tb) {x : Int32} {a : Int} {off : Int} {tgt : Nat} (hd : decode cc pc = .ok (.ifCond .lt off, 3)) (ht : (pc : Int) + off = (tgt : Int)) (hx : x.toInt = a)
    (kt : a < 0 → th_G l z nL tgt lv st mu kc ks) (kf : ¬ (a < 0) → th_G l z nL (pc + 3) lv st mu kc ks) : th_G l z nL pc lv (.inl x :: st) mu kc ks := by
  subst hx
  exact th_if_lt C hd ht (fun h => kt (by have h2 := Int32.lt_iff_toInt_lt.mp h; rw [th_z0] at h2; exact h2)) (fun h => kf (fun q => h (Int32.lt_iff_toInt_lt.mpr (by rw [th_z0]; exact q))))
theorem tq_icmp_lt (C : th_C l z cc nL own rm ret tb) {x y : Int32} {a b : Int} {off : Int} {tgt : Nat} (hd : decode cc pc = .ok (.if_icmp .lt off, 3)) (ht : (pc : Int) + off = (tgt : Int)) (hx : x.toInt = a) (hy : y.toInt = b)
    (kt : a < b → th_G l z nL tgt lv st mu kc ks) (kf : ¬ (a < b) → th_G l z nL (pc + 3) lv st mu kc ks) : th_G l z nL pc lv (.inl y :: .inl x :: st) mu kc ks := by
  subst hx; subst hy
  exact th_icmp_lt C hd ht (fun h => kt (Int32.lt_iff_toInt_lt.mp h)) (fun h => kf (fun q => h (Int32.lt_iff_toInt_lt.mpr q)))
theorem tq_if_ge (C : th_C l z cc nL own rm ret tb) {x : Int32} {a : Int} {off : Int} {tgt : Nat} (hd : decode cc pc = .ok (.ifCond .ge off, 3)) (ht : (pc : Int) + off = (tgt : Int)) (hx : x.toInt = a)
    (kt : 0 ≤ a → th_G l z nL tgt lv st mu kc ks) (kf : ¬ (0 ≤ a) → th_G l z nL (pc + 3) lv st mu kc ks) : th_G l z nL pc lv (.inl x :: st) mu kc ks := by
  subst hx
  exact th_if_ge C hd ht (fun h => kt (by have h2 := Int32.le_iff_toInt_le.mp h; rw [th_z0] at h2; exact h2)) (fun h => kf (fun q => h (Int32.le_iff_toInt_le.mpr (by rw [th_z0]; exact q))))
theorem tq_icmp_ge (C : th_C l z cc nL own rm ret tb) {x y : Int32} {a b : Int} {off : Int} {tgt : Nat} (hd : decode cc pc = .ok (.if_icmp .ge off, 3)) (ht : (pc : Int) + off = (tgt : Int)) (hx : x.toInt = a) (hy : y.toInt = b)
    (kt : b ≤ a → th_G l z nL tgt lv st mu kc ks) (kf : ¬ (b ≤ a) → th_G l z nL (pc + 3) lv st mu kc ks) : th_G l z nL pc lv (.inl y :: .inl x :: st) mu kc ks := by
  subst hx; subst hy
  exact th_icmp_ge C hd ht (fun h => kt (Int32.le_iff_toInt_le.mp h)) (fun h => kf (fun q => h (Int32.le_iff_toInt_le.mpr q)))
theorem tq_if_gt (C : th_C l z cc nL own rm ret tb) {x : Int32} {a : Int} {off : Int} {tgt : Nat} (hd : decode cc pc = .ok (.ifCond .gt off, 3)) (ht : (pc : Int) + off = (tgt : Int)) (hx : x.toInt = a)
    (kt : 0 < a → th_G l z nL tgt lv st mu kc ks) (kf : ¬ (0 < a) → th_G l z nL (pc + 3) lv st mu kc ks) : th_G l z nL pc lv (.inl x :: st) mu kc ks := by
  subst hx
  exact th_if_gt C hd ht (fun h => kt (by have h2 := Int32.lt_iff_toInt_lt.mp h; rw [th_z0] at h2; exact h2)) (fun h => kf (fun q => h (Int32.lt_iff_toInt_lt.mpr (by rw [th_z0]; exact q))))
theorem tq_icmp_gt (C : th_C l z cc nL own rm ret tb) {x y : Int32} {a b : Int} {off : Int} {tgt : Nat} (hd : decode cc pc = .ok (.if_icmp .gt off, 3)) (ht : (pc : Int) + off = (tgt : Int)) (hx : x.toInt = a) (hy : y.toInt = b)
    (kt : b < a → th_G l z nL tgt lv st mu kc ks) (kf : ¬ (b < a) → th_G l z nL (pc + 3) lv st mu kc ks) : th_G l z nL pc lv (.inl y :: .inl x :: st) mu kc ks := by
  subst hx; subst hy
  exact th_icmp_gt C hd ht (fun h => kt (Int32.lt_iff_toInt_lt.mp h)) (fun h => kf (fun q => h (Int32.lt_iff_toInt_lt.mpr q)))
theorem tq_if_le (C : th_C l z cc nL own rm ret tb) {x : Int32} {a : Int} {off : Int} {tgt : Nat} (hd : decode cc pc = .ok (.ifCond .le off, 3)) (ht : (pc : Int) + off = (tgt : Int)) (hx : x.toInt = a)
    (kt : a ≤ 0 → th_G l z nL tgt lv st mu kc ks) (kf : ¬ (a ≤ 0) → th_G l z nL (pc + 3) lv st mu kc ks) : th_G l z nL pc lv (.inl x :: st) mu kc ks := by
  subst hx
  exact th_if_le C hd ht (fun h => kt (by have h2 := Int32.le_iff_toInt_le.mp h; rw [th_z0] at h2; exact h2)) (fun h => kf (fun q => h (Int32.le_iff_toInt_le.mpr (by rw [th_z0]; exact q))))
theorem tq_icmp_le (C : th_C l z cc nL own rm ret tb) {x y : Int32} {a b : Int} {off : Int} {tgt : Nat} (hd : decode cc pc = .ok (.if_icmp .le off, 3)) (ht : (pc : Int) + off = (tgt : Int)) (hx : x.toInt = a) (hy : y.toInt = b)
    (kt : a ≤ b → th_G l z nL tgt lv st mu kc ks) (kf : ¬ (a ≤ b) → th_G l z nL (pc + 3) lv st mu kc ks) : th_G l z nL pc lv (.inl y :: .inl x :: st) mu kc ks := by
  subst hx; subst hy
  exact th_icmp_le C hd ht (fun h => kt (Int32.le_iff_toInt_le.mp h)) (fun h => kf (fun q => h (Int32.le_iff_toInt_le.mpr q)))
def th_rp (I : th_I) (P : Int32 → Prop) : th_P := fun o mu => ∃ x, o = .inl (some (.inl x)) ∧ mu = th_m I ∧ P x
def th_rv (P : th_I → Prop) : th_P := fun o mu => ∃ J, o = .inl none ∧ mu = th_m J ∧ P J
def th_ri (P : Int32 → th_I → Prop) : th_P := fun o mu => ∃ x J, o = .inl (some (.inl x)) ∧ mu = th_m J ∧ P x J
def th_rt (I : th_I) (P : Prop) (X : String → Prop) : th_P := fun o mu => (o = .inl none ∧ mu = th_m I ∧ P) ∨ ∃ E, o = .inr E ∧ mu = th_m I ∧ X E
def th_rm (P : Int32 → th_I → Prop) (X : String → th_I → Prop) : th_P := fun o mu => (∃ x J, o = .inl (some (.inl x)) ∧ mu = th_m J ∧ P x J) ∨ ∃ E J, o = .inr E ∧ mu = th_m J ∧ X E J
theorem tq_callVp {y : MethodName} {cy : ByteArray} {mL : Nat} {rety : Option FieldType} {rmy : Room} {as : List th_V} {ix : Nat} {stk : List th_V} {t i ci N : Nat} {Cn : String} {T : u_T} {ty : Nat → FieldType} {P : Int32 → Prop} (C : th_C l z cc nL own rm ret tb) (hM : th_F l y cy mL rety rmy (.inr (some (t, i)) :: as) (th_m I) (th_rp I P)) (ok : th_okV own ix Cn y cy mL rety as.length) (K : th_cl t ci Cn T N ty) (hi : i < th_cn t) (hrm : th_okR rmy rm mL kc ks = true) (hst : st.length ≤ 8) (hd : decode cc pc = .ok (.invokevirtual ix, 3)) (hstk : as.reverse ++ .inr (some (t, i)) :: st = stk)
    (k : ∀ x : Int32, P x → th_G l z nL (pc + 3) lv (.inl x :: st) (th_m I) (kc + rmy.cells) (ks + rmy.slots)) : th_G l z nL pc lv stk (th_m I) kc ks := by
  refine th_callV (mu := th_m I) C hM ok hrm hi K.1 K.2.1 hst hd hstk (fun E mu' h => by obtain ⟨x, q, -⟩ := h; cases q) (fun v mu' h => ?_)
  obtain ⟨x, q, rfl, h⟩ := h
  cases q
  exact k x h
theorem tq_callVv {y : MethodName} {cy : ByteArray} {mL : Nat} {rety : Option FieldType} {rmy : Room} {as : List th_V} {ix : Nat} {stk : List th_V} {t i ci N : Nat} {Cn : String} {T : u_T} {ty : Nat → FieldType} {P : th_I → Prop} (C : th_C l z cc nL own rm ret tb) (hM : th_F l y cy mL rety rmy (.inr (some (t, i)) :: as) (th_m I) (th_rv P)) (ok : th_okV own ix Cn y cy mL rety as.length) (K : th_cl t ci Cn T N ty) (hi : i < th_cn t) (hrm : th_okR rmy rm mL kc ks = true) (hst : st.length ≤ 8) (hd : decode cc pc = .ok (.invokevirtual ix, 3)) (hstk : as.reverse ++ .inr (some (t, i)) :: st = stk)
    (k : ∀ J, P J → th_G l z nL (pc + 3) lv st (th_m J) (kc + rmy.cells) (ks + rmy.slots)) : th_G l z nL pc lv stk (th_m I) kc ks := by
  refine th_callV (mu := th_m I) C hM ok hrm hi K.1 K.2.1 hst hd hstk (fun E mu' h => by obtain ⟨J, q, -⟩ := h; cases q) (fun v mu' h => ?_)
  obtain ⟨J, q, rfl, h⟩ := h
  cases q
  exact k J h
theorem tq_callVi {y : MethodName} {cy : ByteArray} {mL : Nat} {rety : Option FieldType} {rmy : Room} {as : List th_V} {ix : Nat} {stk : List th_V} {t i ci N : Nat} {Cn : String} {T : u_T} {ty : Nat → FieldType} {P : Int32 → th_I → Prop} (C : th_C l z cc nL own rm ret tb) (hM : th_F l y cy mL rety rmy (.inr (some (t, i)) :: as) (th_m I) (th_ri P)) (ok : th_okV own ix Cn y cy mL rety as.length) (K : th_cl t ci Cn T N ty) (hi : i < th_cn t) (hrm : th_okR rmy rm mL kc ks = true) (hst : st.length ≤ 8) (hd : decode cc pc = .ok (.invokevirtual ix, 3)) (hstk : as.reverse ++ .inr (some (t, i)) :: st = stk)
    (k : ∀ (x : Int32) (J : th_I), P x J → th_G l z nL (pc + 3) lv (.inl x :: st) (th_m J) (kc + rmy.cells) (ks + rmy.slots)) : th_G l z nL pc lv stk (th_m I) kc ks := by
  refine th_callV (mu := th_m I) C hM ok hrm hi K.1 K.2.1 hst hd hstk (fun E mu' h => by obtain ⟨x, J, q, -⟩ := h; cases q) (fun v mu' h => ?_)
  obtain ⟨x, J, q, rfl, h⟩ := h
  cases q
  exact k x J h
theorem tq_callVt {y : MethodName} {cy : ByteArray} {mL : Nat} {rety : Option FieldType} {rmy : Room} {as : List th_V} {ix : Nat} {stk : List th_V} {t i ci N : Nat} {Cn : String} {T : u_T} {ty : Nat → FieldType} {P : Prop} {X : String → Prop} (C : th_C l z cc nL own rm ret tb) (hM : th_F l y cy mL rety rmy (.inr (some (t, i)) :: as) (th_m I) (th_rt I P X)) (ok : th_okV own ix Cn y cy mL rety as.length) (K : th_cl t ci Cn T N ty) (hi : i < th_cn t) (hrm : th_okR rmy rm mL kc ks = true) (hst : st.length ≤ 8) (hd : decode cc pc = .ok (.invokevirtual ix, 3)) (hstk : as.reverse ++ .inr (some (t, i)) :: st = stk)
    (kx : ∀ E, X E → th_X l z nL pc lv E (th_m I) (kc + rmy.cells) (ks + rmy.slots)) (k : P → th_G l z nL (pc + 3) lv st (th_m I) (kc + rmy.cells) (ks + rmy.slots)) : th_G l z nL pc lv stk (th_m I) kc ks := by
  refine th_callV (mu := th_m I) C hM ok hrm hi K.1 K.2.1 hst hd hstk (fun E mu' h => ?_) (fun v mu' h => ?_)
  · rcases h with ⟨q, -⟩ | ⟨E', q, rfl, h⟩
    · cases q
    · cases q
      exact kx E h
  · rcases h with ⟨q, rfl, h⟩ | ⟨E', q, -⟩
    · cases q
      exact k h
    · cases q
theorem tq_callVm {y : MethodName} {cy : ByteArray} {mL : Nat} {rety : Option FieldType} {rmy : Room} {as : List th_V} {ix : Nat} {stk : List th_V} {t i ci N : Nat} {Cn : String} {T : u_T} {ty : Nat → FieldType} {P : Int32 → th_I → Prop} {X : String → th_I → Prop} (C : th_C l z cc nL own rm ret tb) (hM : th_F l y cy mL rety rmy (.inr (some (t, i)) :: as) (th_m I) (th_rm P X)) (ok : th_okV own ix Cn y cy mL rety as.length) (K : th_cl t ci Cn T N ty) (hi : i < th_cn t) (hrm : th_okR rmy rm mL kc ks = true) (hst : st.length ≤ 8) (hd : decode cc pc = .ok (.invokevirtual ix, 3)) (hstk : as.reverse ++ .inr (some (t, i)) :: st = stk)
    (kx : ∀ E J, X E J → th_X l z nL pc lv E (th_m J) (kc + rmy.cells) (ks + rmy.slots)) (k : ∀ (x : Int32) (J : th_I), P x J → th_G l z nL (pc + 3) lv (.inl x :: st) (th_m J) (kc + rmy.cells) (ks + rmy.slots)) : th_G l z nL pc lv stk (th_m I) kc ks := by
  refine th_callV (mu := th_m I) C hM ok hrm hi K.1 K.2.1 hst hd hstk (fun E mu' h => ?_) (fun v mu' h => ?_)
  · rcases h with ⟨x, J, q, -⟩ | ⟨E', J, q, rfl, h⟩
    · cases q
    · cases q
      exact kx E J h
  · rcases h with ⟨x, J, q, rfl, h⟩ | ⟨E', J, q, -⟩
    · cases q
      exact k x J h
    · cases q
theorem tq_callSp {y : MethodName} {cy : ByteArray} {mL : Nat} {rety : Option FieldType} {rmy : Room} {as : List th_V} {ix : Nat} {stk : List th_V} {P : Int32 → Prop} (C : th_C l z cc nL own rm ret tb) (hM : th_F l y cy mL rety rmy as (th_m I) (th_rp I P)) (ok : th_okS own ix y cy mL rety as.length) (hrm : th_okR rmy rm mL kc ks = true) (hst : st.length ≤ 8) (hd : decode cc pc = .ok (.invokestatic ix, 3)) (hstk : as.reverse ++ st = stk)
    (k : ∀ x : Int32, P x → th_G l z nL (pc + 3) lv (.inl x :: st) (th_m I) (kc + rmy.cells) (ks + rmy.slots)) : th_G l z nL pc lv stk (th_m I) kc ks := by
  refine th_callS (mu := th_m I) C hM ok hrm hst hd hstk (fun E mu' h => by obtain ⟨x, q, -⟩ := h; cases q) (fun v mu' h => ?_)
  obtain ⟨x, q, rfl, h⟩ := h
  cases q
  exact k x h
theorem tq_callSv {y : MethodName} {cy : ByteArray} {mL : Nat} {rety : Option FieldType} {rmy : Room} {as : List th_V} {ix : Nat} {stk : List th_V} {P : th_I → Prop} (C : th_C l z cc nL own rm ret tb) (hM : th_F l y cy mL rety rmy as (th_m I) (th_rv P)) (ok : th_okS own ix y cy mL rety as.length) (hrm : th_okR rmy rm mL kc ks = true) (hst : st.length ≤ 8) (hd : decode cc pc = .ok (.invokestatic ix, 3)) (hstk : as.reverse ++ st = stk)
    (k : ∀ J, P J → th_G l z nL (pc + 3) lv st (th_m J) (kc + rmy.cells) (ks + rmy.slots)) : th_G l z nL pc lv stk (th_m I) kc ks := by
  refine th_callS (mu := th_m I) C hM ok hrm hst hd hstk (fun E mu' h => by obtain ⟨J, q, -⟩ := h; cases q) (fun v mu' h => ?_)
  obtain ⟨J, q, rfl, h⟩ := h
  cases q
  exact k J h
theorem tq_callSi {y : MethodName} {cy : ByteArray} {mL : Nat} {rety : Option FieldType} {rmy : Room} {as : List th_V} {ix : Nat} {stk : List th_V} {P : Int32 → th_I → Prop} (C : th_C l z cc nL own rm ret tb) (hM : th_F l y cy mL rety rmy as (th_m I) (th_ri P)) (ok : th_okS own ix y cy mL rety as.length) (hrm : th_okR rmy rm mL kc ks = true) (hst : st.length ≤ 8) (hd : decode cc pc = .ok (.invokestatic ix, 3)) (hstk : as.reverse ++ st = stk)
    (k : ∀ (x : Int32) (J : th_I), P x J → th_G l z nL (pc + 3) lv (.inl x :: st) (th_m J) (kc + rmy.cells) (ks + rmy.slots)) : th_G l z nL pc lv stk (th_m I) kc ks := by
  refine th_callS (mu := th_m I) C hM ok hrm hst hd hstk (fun E mu' h => by obtain ⟨x, J, q, -⟩ := h; cases q) (fun v mu' h => ?_)
  obtain ⟨x, J, q, rfl, h⟩ := h
  cases q
  exact k x J h
theorem tq_callSt {y : MethodName} {cy : ByteArray} {mL : Nat} {rety : Option FieldType} {rmy : Room} {as : List th_V} {ix : Nat} {stk : List th_V} {P : Prop} {X : String → Prop} (C : th_C l z cc nL own rm ret tb) (hM : th_F l y cy mL rety rmy as (th_m I) (th_rt I P X)) (ok : th_okS own ix y cy mL rety as.length) (hrm : th_okR rmy rm mL kc ks = true) (hst : st.length ≤ 8) (hd : decode cc pc = .ok (.invokestatic ix, 3)) (hstk : as.reverse ++ st = stk)
    (kx : ∀ E, X E → th_X l z nL pc lv E (th_m I) (kc + rmy.cells) (ks + rmy.slots)) (k : P → th_G l z nL (pc + 3) lv st (th_m I) (kc + rmy.cells) (ks + rmy.slots)) : th_G l z nL pc lv stk (th_m I) kc ks := by
  refine th_callS (mu := th_m I) C hM ok hrm hst hd hstk (fun E mu' h => ?_) (fun v mu' h => ?_)
  · rcases h with ⟨q, -⟩ | ⟨E', q, rfl, h⟩
    · cases q
    · cases q
      exact kx E h
  · rcases h with ⟨q, rfl, h⟩ | ⟨E', q, -⟩
    · cases q
      exact k h
    · cases q
theorem tq_callSm {y : MethodName} {cy : ByteArray} {mL : Nat} {rety : Option FieldType} {rmy : Room} {as : List th_V} {ix : Nat} {stk : List th_V} {P : Int32 → th_I → Prop} {X : String → th_I → Prop} (C : th_C l z cc nL own rm ret tb) (hM : th_F l y cy mL rety rmy as (th_m I) (th_rm P X)) (ok : th_okS own ix y cy mL rety as.length) (hrm : th_okR rmy rm mL kc ks = true) (hst : st.length ≤ 8) (hd : decode cc pc = .ok (.invokestatic ix, 3)) (hstk : as.reverse ++ st = stk)
    (kx : ∀ E J, X E J → th_X l z nL pc lv E (th_m J) (kc + rmy.cells) (ks + rmy.slots)) (k : ∀ (x : Int32) (J : th_I), P x J → th_G l z nL (pc + 3) lv (.inl x :: st) (th_m J) (kc + rmy.cells) (ks + rmy.slots)) : th_G l z nL pc lv stk (th_m I) kc ks := by
  refine th_callS (mu := th_m I) C hM ok hrm hst hd hstk (fun E mu' h => ?_) (fun v mu' h => ?_)
  · rcases h with ⟨x, J, q, -⟩ | ⟨E', J, q, rfl, h⟩
    · cases q
    · cases q
      exact kx E J h
  · rcases h with ⟨x, J, q, rfl, h⟩ | ⟨E', J, q, -⟩
    · cases q
      exact k x J h
    · cases q
end TQ
end
section
section MK
variable {l : Launch} {z : th_Z} {cc : ByteArray} {nL pc kc ks : Nat} {own : String} {rm : Room} {ret : Option FieldType} {tb : List ExceptionTableEntry} {lv : List (Nat × th_V)} {st : List th_V} {mu : th_M} {I : th_I}
theorem th_zald (C : th_C l z cc nL own rm ret tb) {t i j n : Nat} {x : Int32} (hd : decode cc pc = .ok (.baload, 1)) (hi : i < mu.1 t) (hk : th_kd t = (1, j)) (hty : ∀ cA, (th_ty cA)[j]? = some (cA j, .boolean)) (hin : th_ix x n (mu.2.2.2.1 t i))
    (k : th_G l z nL (pc + 1) lv (.inl (mu.2.1 t i n) :: st) mu kc ks) : th_G l z nL pc lv (.inl x :: .inr (some (t, i)) :: st) mu kc ks := by
  obtain ⟨p, e, R, s, m, args, below, meth, c, Q, D, cA, base, al⟩ := z
  obtain ⟨hx, hb, hml, hown, hts, hlo, hK, -⟩ := C
  intro H locs ls hw hS hl
  have hlt := hin.lt
  obtain ⟨hin, rfl⟩ := hin
  exact W.zald (v := .int (mu.2.1 t i x.toNatClampNeg)) hx hb (th_ck_int (hw.1 t i hi) hk) ((hK.2 j _ (hty cA)).1 _ _) (fun q => by cases q) (by rw [arrV_size]; exact hin) (by rw [arrV_read _ _ hlt]) rfl rfl hd (k H locs ls hw hS hl)
theorem th_zast (C : th_C l z cc nL own rm ret tb) {t i j n : Nat} {x v : Int32} (hd : decode cc pc = .ok (.bastore, 1)) (hi : i < mu.1 t) (hk : th_kd t = (1, j)) (hty : ∀ cA, (th_ty cA)[j]? = some (cA j, .boolean)) (hin : th_ix x n (mu.2.2.2.1 t i)) (hnar : narrow .boolean (.int v) = .int v)
    (k : th_G l z nL (pc + 1) lv st (mu.1, th_u mu.2.1 t i n v, mu.2.2) kc ks) : th_G l z nL pc lv (.inl v :: .inl x :: .inr (some (t, i)) :: st) mu kc ks := by
  obtain ⟨p, e, R, s, m, args, below, meth, c, Q, D, cA, base, al⟩ := z
  obtain ⟨hx, hb, hml, hown, hts, hlo, hK, -⟩ := C
  intro H locs ls hw hS hl
  obtain ⟨hin, rfl⟩ := hin
  refine W.zast hx hb (th_ck_int (hw.1 t i hi) hk) ((hK.2 j _ (hty cA)).1 _ _) (fun q => by cases q) (by rw [arrV_size]; exact hin) rfl rfl hd fun H1 e1 e2 e3 => ?_
  refine k H1 _ ls ?_ (hS.put e2 e3 (hw.2.2.1 t i hi)) hl
  refine th_W_put hw hi rfl ?_ e3 (fun t' i' h => th_u_ne _ _ _ h) (fun _ _ _ => rfl) rfl e2
  unfold th_ck
  rw [hk]
  show H1[al t i]? = _
  rw [e1, arrV_store]
  congr 2
  funext q
  show updV _ _ _ q = Value.int (th_u mu.2.1 t i _ v t i q)
  rw [th_u_self]
  by_cases hq : q = x.toNatClampNeg
  · subst hq
    simp [updV, upd, hnar]
  · simp [updV, upd, hq]
theorem tq_zaldN (C : th_C l z cc nL own rm ret tb) {t i j n : Nat} {x : Int32} {a : Int} (hd : decode cc pc = .ok (.baload, 1)) (hk : th_kd t = (1, j)) (hty : ∀ cA, (th_ty cA)[j]? = some (cA j, .boolean)) (hi : i < th_cn t) (hx : x.toInt = a) (hn : (n : Int) = a) (h1 : n < th_L0 t i)
    (k : ∀ y : Int32, y = I t i n → th_G l z nL (pc + 1) lv (.inl y :: st) (th_m I) kc ks) : th_G l z nL pc lv (.inl x :: .inr (some (t, i)) :: st) (th_m I) kc ks :=
  th_zald (mu := th_m I) C hd hi hk hty (th_ixN hx hn h1) (k _ rfl)
theorem tq_zaldE (C : th_C l z cc nL own rm ret tb) {t i j n : Nat} {x y : Int32} {a : Int} (hd : decode cc pc = .ok (.baload, 1)) (hk : th_kd t = (1, j)) (hty : ∀ cA, (th_ty cA)[j]? = some (cA j, .boolean)) (hi : i < th_cn t) (hx : x.toInt = a) (hn : (n : Int) = a) (h1 : n < th_L0 t i) (hy : y = I t i n)
    (k : th_G l z nL (pc + 1) lv (.inl y :: st) (th_m I) kc ks) : th_G l z nL pc lv (.inl x :: .inr (some (t, i)) :: st) (th_m I) kc ks :=
  th_zald (mu := th_m I) C hd hi hk hty (th_ixN hx hn h1) (by subst hy; exact k)
theorem tq_zastN (C : th_C l z cc nL own rm ret tb) {t i j n : Nat} {x v : Int32} {a : Int} (hd : decode cc pc = .ok (.bastore, 1)) (hk : th_kd t = (1, j)) (hty : ∀ cA, (th_ty cA)[j]? = some (cA j, .boolean)) (hi : i < th_cn t) (hx : x.toInt = a) (hn : (n : Int) = a) (h1 : n < th_L0 t i) (hnar : narrow .boolean (.int v) = .int v)
    (k : th_G l z nL (pc + 1) lv st (th_m (th_u I t i n v)) kc ks) : th_G l z nL pc lv (.inl v :: .inl x :: .inr (some (t, i)) :: st) (th_m I) kc ks :=
  th_zast (mu := th_m I) C hd hi hk hty (th_ixN hx hn h1) hnar k
theorem th_new (C : th_C l z cc nL own rm ret tb) {t i ci ix N n : Nat} {Cn : String} {T : u_T} {ty : Nat → FieldType} (hd : decode cc pc = .ok (.new ix, 3)) (K : th_cl t ci Cn T N ty) (hcl : Cond.classLink own ix Cn ∈ th_B) (hins : Cond.instantiable Cn N ∈ th_B) (hini : Cond.initialized Cn ∈ th_B) (hn : mu.2.2.2.2 = n + 1) (hi : mu.1 t = i) (ht : t < 90) (had : th_ad t i = n)
    (hz : ∀ k, k < N → (th_fr t k = true ∧ defaultValue (ty k) = .null ∧ mu.2.2.1 t i k = none) ∨ (th_fr t k = false ∧ defaultValue (ty k) = .int 0 ∧ mu.2.1 t i k = 0)) (hc1 : kc + 1 ≤ rm.cells) (hs1 : ks + N ≤ rm.slots)
    (k : th_G l z nL (pc + 3) lv (.inr (some (t, i)) :: st) (th_mk mu t i) (kc + 1) (ks + N)) : th_G l z nL pc lv st mu kc ks := by
  obtain ⟨p, e, R, s, m, args, below, meth, c, Q, D, cA, base, al⟩ := z
  obtain ⟨hx, hb, hml, hown, hts, hlo, hK, hST, hbs, hR, hr, htb, htr, hal⟩ := C
  subst hR
  intro H locs ls hw hS hl
  have hKn := hK.1 ci _ K.2.1
  have hal1 : al t i = base + n := by rw [hal t i ht, had]
  have hsz : H.size = base + n := by
    rcases hw.2.2.2 with f | f
    · omega
    · omega
  refine W.newcK hx hb hown (hts _ hcl) (hts _ hins) (hts _ hini) rfl hd hc1 hs1 hKn.2.1 rfl fun H1 kC hkC e1 z1 o1 => ?_
  have hw1 : th_W D cA base al (th_mk mu t i) H1 := by
    refine th_W_new hw hn hi hal1 o1 z1 ?_
    unfold th_ck
    rw [K.1]
    refine ⟨_, K.2.1, ?_⟩
    rw [hal1, ← hsz]
    refine (u_born ty hts K.2.2.1 hKn hkC e1 K.2.2.2.1).to fun j hj => ?_
    rcases hz j hj with ⟨a1, a2, a3⟩ | ⟨a1, a2, a3⟩
    · simp [th_fv, a1, a2, a3, th_cv]
    · simp [th_fv, a1, a2, a3]
  have hS1 : va_S (fun q => base ≤ q) s.heap H1 locs := ⟨Nat.le_trans hS.1 (by omega), fun x h1 h2 => (o1 x (Nat.lt_of_lt_of_le h1 hS.1)).trans (hS.2.1 x h1 h2), hS.2.2⟩
  have := k H1 locs ls hw1 hS1 hl
  simp only [List.map_cons, th_cv, hal1] at this
  rw [hsz]
  exact this
theorem th_newa (C : th_C l z cc nL own rm ret tb) {t i j N n : Nat} {x : Int32} {at0 : ArrayType} {ty : FieldType} (hd : decode cc pc = .ok (.newarray at0, 2)) (h9 : (at0 = .int ∧ ty = .int) ∨ (at0 = .boolean ∧ ty = .boolean)) (hk : th_kd t = (1, j)) (hty : ∀ cA, (th_ty cA)[j]? = some (cA j, ty)) (harr : Cond.arrayClass ty ∈ th_B) (hx0 : ¬ x < 0) (hxN : x.toNatClampNeg = N) (hN : N ≤ 1000) (hn : mu.2.2.2.2 = n + 1) (hi : mu.1 t = i) (ht : t < 90) (had : th_ad t i = n)
    (hL : mu.2.2.2.1 t i = N) (hz : ∀ k, mu.2.1 t i k = 0) (hc1 : kc + 1 ≤ rm.cells) (hs1 : ks + N ≤ rm.slots)
    (k : th_G l z nL (pc + 2) lv (.inr (some (t, i)) :: st) (th_mk mu t i) (kc + 1) (ks + N)) : th_G l z nL pc lv (.inl x :: st) mu kc ks := by
  obtain ⟨p, e, R, s, m, args, below, meth, c, Q, D, cA, base, al⟩ := z
  obtain ⟨hx, hb, hml, hown, hts, hlo, hK, hST, hbs, hR, hr, htb, htr, hal⟩ := C
  subst hR
  intro H locs ls hw hS hl
  have hal1 : al t i = base + n := by rw [hal t i ht, had]
  have hsz : H.size = base + n := by
    rcases hw.2.2.2 with f | f
    · omega
    · omega
  have hNm := (hK.2 j _ (hty cA)).2
  refine va_newaK (atype := at0) hx hb (by rcases h9 with ⟨rfl, rfl⟩ | ⟨rfl, rfl⟩ <;> exact hts _ harr) rfl hd rfl hx0 hxN (by rcases h9 with ⟨rfl, rfl⟩ | ⟨rfl, rfl⟩ <;> simp only [newarray.typeOf, componentBytes] <;> omega) hc1 hs1 rfl fun H1 cB e1 z1 o1 hAr hN2 => ?_
  have hdf : defaultValue (newarray.typeOf at0) = .int 0 := by rcases h9 with ⟨rfl, rfl⟩ | ⟨rfl, rfl⟩ <;> rfl
  rw [hdf] at e1
  have hNm : s.vm.findClass ("[" ++ (newarray.typeOf at0).toString) = some (cA j) := by rcases h9 with ⟨rfl, rfl⟩ | ⟨rfl, rfl⟩ <;> exact hNm
  have hcB : cB = cA j := Option.some.inj (hN2.symm.trans hNm)
  subst hcB
  have hw1 : th_W D cA base al (th_mk mu t i) H1 := by
    refine th_W_new hw hn hi hal1 o1 z1 ?_
    unfold th_ck
    rw [hk]
    show H1[al t i]? = _
    rw [hal1, ← hsz, e1, hL]
    congr 2
    funext q
    rw [hz q]
  have hS1 : va_S (fun q => base ≤ q) s.heap H1 locs := ⟨Nat.le_trans hS.1 (by omega), fun x h1 h2 => (o1 x (Nat.lt_of_lt_of_le h1 hS.1)).trans (hS.2.1 x h1 h2), hS.2.2⟩
  have := k H1 locs ls hw1 hS1 hl
  simp only [List.map_cons, th_cv, hal1] at this
  rw [hsz]
  exact this
theorem th_anew (C : th_C l z cc nL own rm ret tb) {t i j N n ix : Nat} {x : Int32} {Cn : String} (hd : decode cc pc = .ok (.anewarray ix, 3)) (hk : th_kd t = (2, j)) (hty : ∀ cA, (th_ty cA)[j]? = some (cA j, .object Cn)) (hcl : Cond.classLink own ix Cn ∈ th_B) (hov : Cn ∈ th_AO) (hx0 : ¬ x < 0) (hxN : x.toNatClampNeg = N) (hN : N ≤ 1000) (hn : mu.2.2.2.2 = n + 1) (hi : mu.1 t = i) (ht : t < 90) (had : th_ad t i = n)
    (hL : mu.2.2.2.1 t i = N) (hz : ∀ k, mu.2.2.1 t i k = none) (hc1 : kc + 1 ≤ rm.cells) (hs1 : ks + N ≤ rm.slots)
    (k : th_G l z nL (pc + 3) lv (.inr (some (t, i)) :: st) (th_mk mu t i) (kc + 1) (ks + N)) : th_G l z nL pc lv (.inl x :: st) mu kc ks := by
  obtain ⟨p, e, R, s, m, args, below, meth, c, Q, D, cA, base, al⟩ := z
  obtain ⟨hx, hb, hml, hown, hts, hlo, hK, hST, hbs, hR, hr, htb, htr, hal⟩ := C
  subst hR
  subst hxN
  intro H locs ls hw hS hl
  have hal1 : al t i = base + n := by rw [hal t i ht, had]
  have hsz : H.size = base + n := by
    rcases hw.2.2.2 with f | f
    · omega
    · omega
  obtain ⟨-, kA0, comp0, g1, g2, g3, g4⟩ := hK.2 j _ (hty cA)
  refine W.anew hx hb hown (hts _ hcl) (va_AO.use (hST.1.2.2 _ hov)) rfl hd rfl hx0 (by omega) hc1 hs1 fun cB kA comp f1 f2 f3 f4 => ?_
  have hcB : cB = cA j := Option.some.inj (f1.symm.trans g4)
  subst hcB
  generalize hH1 : H.push ({ cls := cA j, slots := Array.replicate x.toNatClampNeg .null, vm := .none } : Cell) = H1
  have z1 : H1.size = H.size + 1 := by rw [← hH1, Array.size_push]
  have e1 : H1[H.size]? = some (arrV (cA j) x.toNatClampNeg (fun _ => .null)) := by rw [← hH1, Array.getElem?_push_size, ← arrV_new]
  have o1 : ∀ q : Nat, q < H.size → H1[q]? = H[q]? := fun q hq => by rw [← hH1, Array.getElem?_push, if_neg (Nat.ne_of_lt hq)]
  have hw1 : th_W D cA base al (th_mk mu t i) H1 := by
    refine th_W_new hw hn hi hal1 o1 z1 ?_
    unfold th_ck
    rw [hk]
    show H1[al t i]? = _
    rw [hal1, ← hsz, e1, hL]
    congr 2
    funext q
    rw [hz q]
    rfl
  have hS1 : va_S (fun q => base ≤ q) s.heap H1 locs := ⟨Nat.le_trans hS.1 (by omega), fun x h1 h2 => (o1 x (Nat.lt_of_lt_of_le h1 hS.1)).trans (hS.2.1 x h1 h2), hS.2.2⟩
  have := k H1 locs ls hw1 hS1 hl
  simp only [List.map_cons, th_cv, hal1] at this
  rw [hsz]
  exact this
theorem th_objInit (C : th_C l z cc nL own rm ret tb) {q : Nat × Nat} {ix : Nat} (hd : decode cc pc = .ok (.invokespecial ix, 3)) (h1 : Cond.methodLink own ix objectInit ∈ th_B) (h2 : Cond.instanceMethod objectInit ∈ th_B) (h3 : Cond.code objectInit ⟨#[0xb1]⟩ 1 none ∈ th_B) (hf : 1 ≤ rm.frames) (hlo : st.length + 12 ≤ rm.locals)
    (k : th_G l z nL (pc + 3) lv st mu kc ks) : th_G l z nL pc lv (.inr (some q) :: st) mu kc ks := by
  obtain ⟨p, e, R, s, m, args, below, meth, c, Q, D, cA, base, al⟩ := z
  obtain ⟨hx, hb, hml, hown, hts, hlk, hK, hST, hbs, hR, hr, htb, htr, hal⟩ := C
  subst hR
  intro H locs ls hw hS hl
  exact W.objInit hx hb hown (hts _ h1) (hts _ h2) (hts _ h3) rfl (hl.1.trans hml.symm) (a := al q.1 q.2) (rest := st.map (th_cv al)) rfl hd hf (by rw [th_cat_sum]; show 0 + _ + 12 ≤ _; omega) (k H locs ls hw hS hl)
theorem th_putR (C : th_C l z cc nL own rm ret tb) {t i ci ix kf N : Nat} {Cn : String} {T : u_T} {ty : Nat → FieldType} {v : Nat × Nat} {nm : String} (hd : decode cc pc = .ok (.putfield ix, 3)) (K : th_cl t ci Cn T N ty) (F : th_fd own ix T N kf) (hi : i < mu.1 t) (hr : th_fr t kf = true) (hfin : (T kf).2.2.2 = true) (hN : th_N z nm) (hnm : nm = "<init>") (hdecl : (T kf).1 = own) (hn : ∀ a, narrow (ty kf) (.ref a) = .ref a) (hfit : ∀ a, fits (ty kf) (.ref a) = true)
    (k : th_G l z nL (pc + 3) lv st (mu.1, mu.2.1, th_ur mu.2.2.1 t i kf (some v), mu.2.2.2) kc ks) : th_G l z nL pc lv (.inr (some v) :: .inr (some (t, i)) :: st) mu kc ks := by
  obtain ⟨p, e, R, s, m, args, below, meth, c, Q, D, cA, base, al⟩ := z
  obtain ⟨hx, hb, hml, hown, hts, hlo, hK, -⟩ := C
  intro H locs ls hw hS hl
  have hap := va_apart (own := own) hts K.2.2.1 ty K.2.2.2.1 K.2.2.2.2 hK K.2.1
  obtain ⟨cell, q1, q2, q3, q4⟩ := th_ck_obj (hw.1 t i hi) K.1 K.2.1
  obtain ⟨hSl, hfc, kC, hkC, hkind⟩ := hK.1 ci _ K.2.1
  obtain ⟨cf, kff, fi, f, hfi, hsl⟩ := hSl kf F.1
  have hlay := hts _ (K.2.2.1 _ (u_in_lay F.1))
  unfold u_lay at hlay
  rw [if_pos hfin] at hlay
  have hst := (u_facts hfc hkC (u_lays hts K.2.2.1 F.1) hfi).1
  have hcf : m.cls = cf := by
    obtain ⟨_, _, c', _, _, _, -, -, hf', -, -, -, hown2, -⟩ := Cond.laysFinal_spec hlay
    have e1 : c' = cf := by have := hfi.symm.trans hf'; simp at this; exact this.1.symm
    rw [hdecl] at hown2
    rw [← e1]; exact Option.some.inj (hown.symm.trans hown2)
  have h6 := u_fits hfc hkC hkind (Or.inr hlay) hfi (K.2.2.2.1 kf F.1) (hn (al v.1 v.2)) (hfit (al v.1 v.2))
  refine W.putFinK hx hb hown (hts _ F.2) hfi hst hcf (hN.trans hnm) (by rw [q2]; exact h6) q1 q3 (by rw [hsl]; exact k2_hasslot (q4 kf F.1)) rfl rfl hd fun H' e1 e2 e3 => ?_
  rw [hsl] at e1 ⊢
  refine k H' _ ls ?_ (hS.put e2 e3 (hw.2.2.1 t i hi)) hl
  refine th_W_put hw hi rfl ?_ e3 (fun _ _ _ => rfl) (fun t' i' h => th_ur_ne _ _ _ h) rfl e2
  unfold th_ck
  rw [K.1]
  refine ⟨_, K.2.1, t_OB.to (V := updV (fun k => th_fv al mu t i k) kf (.ref (al v.1 v.2))) ⟨_, e1, q2, q3, t_set q4 hap F.1 (.ref (al v.1 v.2))⟩ (fun j _ => ?_)⟩
  by_cases hj : j = kf
  · subst hj
    simp [updV, th_fv, hr, th_ur_self, va_up, th_cv]
  · simp [updV, th_fv, hj, th_ur_self, va_up]
theorem th_putFI (C : th_C l z cc nL own rm ret tb) {t i ci ix kf N : Nat} {Cn : String} {T : u_T} {ty : Nat → FieldType} {v : Int32} {nm : String} (hd : decode cc pc = .ok (.putfield ix, 3)) (K : th_cl t ci Cn T N ty) (F : th_fd own ix T N kf) (hi : i < mu.1 t) (hr : th_fr t kf = false) (hfin : (T kf).2.2.2 = true) (hN : th_N z nm) (hnm : nm = "<init>") (hdecl : (T kf).1 = own) (hty : ty kf = .int)
    (k : th_G l z nL (pc + 3) lv st (mu.1, th_u mu.2.1 t i kf v, mu.2.2) kc ks) : th_G l z nL pc lv (.inl v :: .inr (some (t, i)) :: st) mu kc ks := by
  obtain ⟨p, e, R, s, m, args, below, meth, c, Q, D, cA, base, al⟩ := z
  obtain ⟨hx, hb, hml, hown, hts, hlo, hK, -⟩ := C
  intro H locs ls hw hS hl
  have hap := va_apart (own := own) hts K.2.2.1 ty K.2.2.2.1 K.2.2.2.2 hK K.2.1
  obtain ⟨cell, q1, q2, q3, q4⟩ := th_ck_obj (hw.1 t i hi) K.1 K.2.1
  obtain ⟨hSl, hfc, kC, hkC, hkind⟩ := hK.1 ci _ K.2.1
  obtain ⟨cf, kff, fi, f, hfi, hsl⟩ := hSl kf F.1
  have hlay := hts _ (K.2.2.1 _ (u_in_lay F.1))
  unfold u_lay at hlay
  rw [if_pos hfin] at hlay
  have hst := (u_facts hfc hkC (u_lays hts K.2.2.1 F.1) hfi).1
  have hcf : m.cls = cf := by
    obtain ⟨_, _, c', _, _, _, -, -, hf', -, -, -, hown2, -⟩ := Cond.laysFinal_spec hlay
    have e1 : c' = cf := by have := hfi.symm.trans hf'; simp at this; exact this.1.symm
    rw [hdecl] at hown2
    rw [← e1]; exact Option.some.inj (hown.symm.trans hown2)
  have h6 := u_fits hfc hkC hkind (Or.inr hlay) hfi (K.2.2.2.1 kf F.1) (v := .int v) (by rw [hty]; rfl) (by rw [hty]; rfl)
  refine W.putFinK hx hb hown (hts _ F.2) hfi hst hcf (hN.trans hnm) (by rw [q2]; exact h6) q1 q3 (by rw [hsl]; exact k2_hasslot (q4 kf F.1)) rfl rfl hd fun H' e1 e2 e3 => ?_
  rw [hsl] at e1 ⊢
  refine k H' _ ls ?_ (hS.put e2 e3 (hw.2.2.1 t i hi)) hl
  refine th_W_put hw hi rfl ?_ e3 (fun t' i' h => th_u_ne _ _ _ h) (fun _ _ _ => rfl) rfl e2
  unfold th_ck
  rw [K.1]
  refine ⟨_, K.2.1, t_OB.to (V := updV (fun k => th_fv al mu t i k) kf (.int v)) ⟨_, e1, q2, q3, t_set q4 hap F.1 (.int v)⟩ (fun j _ => ?_)⟩
  by_cases hj : j = kf
  · subst hj
    simp [updV, th_fv, hr, th_u_self, upd]
  · simp [updV, th_fv, hj, th_u_self, upd]
theorem th_aast (C : th_C l z cc nL own rm ret tb) {t i j n ci : Nat} {x : Int32} {r : vw_C} {v : Nat × Nat} (hd : decode cc pc = .ok (.aastore, 1)) (hk : th_kd t = (2, j)) (hty : ∀ cA, (th_ty cA)[j]? = some (cA j, .object r.1)) (hc : th_Cl[ci]? = some r) (hkv : th_kd v.1 = (0, ci)) (hi : i < mu.1 t) (hv : v.2 < mu.1 v.1) (hin : th_ix x n (mu.2.2.2.1 t i))
    (k : th_G l z nL (pc + 1) lv st (mu.1, mu.2.1, th_ur mu.2.2.1 t i n (some v), mu.2.2.2) kc ks) : th_G l z nL pc lv (.inr (some v) :: .inl x :: .inr (some (t, i)) :: st) mu kc ks := by
  obtain ⟨p, e, R, s, m, args, below, meth, c, Q, D, cA, base, al⟩ := z
  obtain ⟨hx, hb, hml, hown, hts, hlo, hK, -⟩ := C
  intro H locs ls hw hS hl
  have hlt := hin.lt
  obtain ⟨hin, rfl⟩ := hin
  have h0 : ¬ x < 0 := fun q => hin (Or.inl q)
  have hcell := th_ck_ref (hw.1 t i hi) hk
  obtain ⟨cellV, g1, g2, g3, -⟩ := th_ck_obj (hw.1 v.1 v.2 hv) hkv hc
  have hcls := (hK.1 ci r hc).2
  obtain ⟨-, kA, comp, k1, k2, k3, -⟩ := hK.2 j _ (hty cA)
  have hcomp : comp = D.1 ci := Option.some.inj (k3.symm.trans hcls.1)
  subst hcomp
  obtain ⟨kC, hkC, -⟩ := hcls.2
  refine W.aast hx hb hcell (fun q h => by cases h) (fun h => by cases h) k1 k2 rfl hkC ⟨h0, by rw [arrV_size]; exact hlt⟩ g1 (fun q h => by rw [g3] at h; cases h) (by rw [g2]; exact hkC) (by rw [g2]; exact va_assign hcls) rfl rfl hd fun H1 e1 z1 oq => ?_
  refine k H1 _ ls ?_ (hS.put z1 oq (hw.2.2.1 t i hi)) hl
  refine th_W_put hw hi rfl ?_ oq (fun _ _ _ => rfl) (fun t' i' h => th_ur_ne _ _ _ h) rfl z1
  unfold th_ck
  rw [hk]
  show H1[al t i]? = _
  rw [e1, arrV_store]
  congr 2
  funext q
  show updV _ _ _ q = th_cv al (.inr (th_ur mu.2.2.1 t i _ (some v) t i q))
  rw [th_ur_self]
  by_cases hq : q = x.toNatClampNeg
  · subst hq
    simp [updV, va_up, th_cv]
  · simp [updV, va_up, hq]
def th_okI (own : String) (ix : Nat) (y : MethodName) (cy : ByteArray) (mL : Nat) (n : Nat) : Prop :=
  th_okB own ix y cy mL none n ∧ y.name = "<init>" ∧ Cond.instanceMethod y ∈ th_B
def th_okN (own : String) (ix : Nat) (host : String) (y : MethodName) (cy : ByteArray) (mL : Nat) (n : Nat) : Prop :=
  (Cond.code y cy mL none ∈ th_B ∧ Cond.initialized y.cls ∈ th_B ∧ Cond.methodLinkNest own ix y host ∈ th_NB ∧ y.cls ≠ "java/lang/invoke/MethodHandle" ∧ y.cls ≠ "java/lang/invoke/VarHandle" ∧ (parseMethodDescriptor y.desc).map (fun d => d.parameters.length) = some n) ∧ y.name = "<init>" ∧ Cond.instanceMethod y ∈ th_B
theorem th_toMet {y : MethodName} {ws : List Cond} {rmy : Room} {Pc : Array Value → State → Prop} {Qc : Array Value → State → Outcome → State → Prop} {XC : String → State → State → Prop} {mc ms : Nat} {free : Addr → Prop} (h : vx_Met l y ws rmy Pc Qc XC mc ms free) (hX : ∀ E st t, ¬ XC E st t) : Met l y ws rmy Pc Qc mc ms free := by
  intro p e ha hc hk s m args below hf happ hP hK
  obtain ⟨n, o, h1, h2, h3, h4⟩ := h p e ha hc hk s m args below hf happ hP hK
  refine ⟨n, o, h1, h2, h3, ?_⟩
  rcases h4 with h4 | ⟨q, -, E, ce, L, hx, -⟩
  · exact h4
  · exact absurd hx (hX _ _ _)
theorem th_noX {D : va_G} {cA : Nat → ClassId} {base : Nat} {al : th_A} {Φ : th_P} (hX : ∀ E mu', ¬ Φ (.inr E) mu') : ∀ E st t, ¬ th_Xc D cA base al Φ E st t := by
  rintro E st t ⟨⟨mu', h, -⟩, -⟩
  exact hX _ _ h
theorem th_coreM {p : Program} {e : Env} {R : Room} {s : State} {m : MethodId} {args : Array Value} {below : List Frame} {meth : Method} {c : Code} {Q : State → Prop} {D : va_G} {cA : Nat → ClassId} {base : Nat} {al : th_A} {H : Heap} {locs : List Loc} {ls : Array Slot} {mc ms : Nat} {stk : List Value} {a : Array Value} {Φ : th_P}
    (hr : va_Run p l e R s m args below meth c H locs kc ks mc ms (F0 m pc ls stk) (st.map (th_cv al)) (th_Qc D cA base al Φ a) (fun q => base ≤ q))
    (hS : va_S (fun q => base ≤ q) s.heap H locs) (hl : lv_has ls nL (lv.map fun q => (q.1, th_cv al q.2)))
    (k : ∀ v mu', Φ (.inl v) mu' → th_G l (p, e, R, s, m, args, below, meth, c, Q, D, cA, base, al) nL (pc + 3) lv (v.toList ++ st) mu' (kc + mc) (ks + ms)) : W p l e R s m args below meth c H locs kc ks Q (F0 m pc ls stk) := by
  intro T hT X
  obtain ⟨v', st₀, t, T', L, h0, X', hL, e1, e2, ⟨⟨v, mu', ho, hv, hw⟩, hF⟩, stp⟩ := hr T hT X
  cases hv
  obtain ⟨k1, k2, k3⟩ := vx_keep h0 e1 hS (fun q _ h => h) (fun q h => h) hL hF
  obtain ⟨t2, a1, b1⟩ := k v mu' ho T'.heap (locs ++ L) ls (by rw [e1]; exact hw) k3 hl T' rfl X'
  refine ⟨t2, stp t2 ?_, b1⟩
  cases v <;> exact a1
theorem th_callI {y : MethodName} {cy : ByteArray} {mL : Nat} {rmy : Room} {as : List th_V} {Φ : th_P} {q : Nat × Nat} {ix : Nat} {stk : List th_V} (C : th_C l z cc nL own rm ret tb)
    (hM : th_F l y cy mL none rmy (.inr (some q) :: as) mu Φ) (hX : ∀ E mu', ¬ Φ (.inr E) mu') (ok : th_okI own ix y cy mL as.length) (hrm : th_okR rmy rm mL kc ks = true) (hst : st.length ≤ 8) (hd : decode cc pc = .ok (.invokespecial ix, 3)) (hstk : as.reverse ++ .inr (some q) :: st = stk)
    (k : ∀ v mu', Φ (.inl v) mu' → th_G l z nL (pc + 3) lv (v.toList ++ st) mu' (kc + rmy.cells) (ks + rmy.slots)) : th_G l z nL pc lv stk mu kc ks := by
  obtain ⟨p, e, R, s, m, args, below, meth, c, Q, D, cA, base, al⟩ := z
  intro H locs ls hw hS hl
  obtain ⟨hx, hb, hml, hown, hts, hlo, hK, hST, hbs, hR, hr, htb, htr, hal⟩ := id C
  subst hstk
  subst hR
  obtain ⟨⟨hf1, hf2⟩, hf3, hf4⟩ := th_okR_of hrm
  obtain ⟨ok1, ok2, ok3⟩ := ok
  exact th_coreM (va_runI (b := al q.1 q.2) (As := as.map (th_cv al)) (rest := st.map (th_cv al)) ⟨hx, hb, hml, hown, hts⟩ (th_toMet (hM D cA base al hal) (th_noX hX)) ⟨th_callB hts ok1 hf1 hf2, ok2, hts _ ok3⟩ ⟨th_Pc_blind, fun U hU hW => th_Pc_at (as := .inr (some q) :: as) hU hW hbs hw hK hST hS⟩ rfl (by simp) hl.1 (by simp [th_cv]) (lv_room (by rw [th_cat_sum]; exact hst)) hd ⟨hf3, hf4⟩) hS hl k
theorem th_callN {y : MethodName} {cy : ByteArray} {mL : Nat} {rmy : Room} {as : List th_V} {Φ : th_P} {q : Nat × Nat} {ix : Nat} {host : String} {stk : List th_V} (C : th_C l z cc nL own rm ret tb)
    (hM : th_F l y cy mL none rmy (.inr (some q) :: as) mu Φ) (hX : ∀ E mu', ¬ Φ (.inr E) mu') (ok : th_okN own ix host y cy mL as.length) (hrm : th_okR rmy rm mL kc ks = true) (hst : st.length ≤ 8) (hd : decode cc pc = .ok (.invokespecial ix, 3)) (hstk : as.reverse ++ .inr (some q) :: st = stk)
    (k : ∀ v mu', Φ (.inl v) mu' → th_G l z nL (pc + 3) lv (v.toList ++ st) mu' (kc + rmy.cells) (ks + rmy.slots)) : th_G l z nL pc lv stk mu kc ks := by
  obtain ⟨p, e, R, s, m, args, below, meth, c, Q, D, cA, base, al⟩ := z
  intro H locs ls hw hS hl
  obtain ⟨hx, hb, hml, hown, hts, hlo, hK, hST, hbs, hR, hr, htb, htr, hal⟩ := id C
  subst hstk
  subst hR
  obtain ⟨⟨hf1, hf2⟩, hf3, hf4⟩ := th_okR_of hrm
  obtain ⟨⟨h1, h2, h3, h4, h5, h6⟩, ok2, ok3⟩ := ok
  refine th_coreM (va_runIN (n := as.length) (host := host) (b := al q.1 q.2) (As := as.map (th_cv al)) (rest := st.map (th_cv al)) ⟨hx, hb, hml, hown, hts⟩ (th_toMet (hM D cA base al hal) (th_noX hX)) ⟨⟨⟨rfl, rfl, hf1, hf2, fun w hw a' U hW => ?_, List.mem_cons_self⟩, hts _ h1, hts _ h2, ⟨h4, h5⟩, fun sig h => ?_, va_Nw.use rfl (th_S_nw hST _ h3)⟩, ok2, hts _ ok3⟩ ⟨th_Pc_blind, fun U hU hW => th_Pc_at (as := .inr (some q) :: as) hU hW hbs hw hK hST hS⟩ rfl (by simp) hl.1 (by simp [th_cv]) (lv_room (by rw [th_cat_sum]; exact hst)) hd ⟨hf3, hf4⟩) hS hl k
  · have hm : w ∈ th_B := by
      rcases List.mem_cons.mp hw with rfl | h
      · exact h1
      · exact h
    exact word_at hW (good_of_word (List.mem_filter.mp hm).2) (hts w hm)
  · rw [h] at h6
    exact (Option.some.inj h6).symm
end MK
end
section
section TW
variable {l : Launch} {z : th_Z} {cc : ByteArray} {nL pc kc ks : Nat} {own : String} {rm : Room} {ret : Option FieldType} {tb : List ExceptionTableEntry} {lv : List (Nat × th_V)} {st : List th_V} {mu : th_M}
def th_okT (own : String) (ik ic : Nat) (E : String) (names : List String) : Prop :=
  Bundle.fit E = true ∧ (∀ n ∈ names, Bundle.fit n = true) ∧ Cond.classLink own ik E ∈ th_B ∧ Cond.initialized E ∈ th_B ∧ (∀ w ∈ vx_at0 own ic E names, w ∈ th_B ∨ w ∈ th_NB) ∧ (∀ w ∈ Cond.classLink own ik E :: Cond.initialized E :: vx_at0 own ic E names, vx_ot w = true)
theorem th_throw (C : th_C l z cc nL own rm ret tb) {E : String} {names : List String} {ik ic mc ms : Nat} {Φ : th_P} (hQ : th_Q z Φ mc ms) (ok : th_okT own ik ic E names) (d0 : decode cc pc = .ok (.new ik, 3)) (d3 : decode cc (pc + 3) = .ok (.dup, 1)) (d4 : decode cc (pc + 4) = .ok (.invokespecial ic, 3)) (d7 : decode cc (pc + 7) = .ok (.athrow, 1)) (htb : ∀ x ∈ tb, covers x (pc + 7) = false)
    (hf : names.length + 3 < rm.frames) (hlo : st.length + (13 * (names.length + 1) + 42) ≤ rm.locals) (hcl : kc + 1 ≤ rm.cells) (hsl : ks + 6 ≤ rm.slots) (hc : kc + 1 ≤ mc) (hs : ks + 6 ≤ ms) (hz : mu.2.2.2.2 = 0) (h : Φ (.inr E) mu) : th_G l z nL pc lv st mu kc ks := by
  obtain ⟨p, e, R, s, m, args, below, meth, c, Q, D, cA, base, al⟩ := z
  obtain ⟨hx, hb, hml, hown, hts, hlk, hK, hST, hbs, hR, hr, htt, htr, hal⟩ := C
  subst hR
  intro H locs ls hw hS hl
  cases hQ
  obtain ⟨o1, o2, o3, o4, o5, o6⟩ := ok
  exact vx_throw0 (A := fun q => base ≤ q) hx hb htr hown o1 o2 (hts _ o3) (hts _ o4) (fun w hw => (o5 w hw).elim (hts w) (fun q => va_Nw.use (th_nk_ot (List.mem_filter.mp q).2) (hST.2.1 w q))) o6 hST.1.1 hST.1.2.1 hS (hl.1.trans hml.symm) d0 d3 d4 d7 (by rw [htt]; exact htb) hf (by rw [th_cat_sum]; exact hlo) hcl hsl hlk
    (fun t ha h1 h2 => ⟨⟨_, h, th_W_grow hw hz h2⟩, Nat.le_trans hS.1 h1, fun q a1 a2 => (h2 q (Nat.lt_of_lt_of_le a1 hS.1)).trans (hS.2.1 q a1 a2)⟩) hS.2.2 hc hs
theorem th_gets (C : th_C l z cc nL own rm ret tb) {ix : Nat} {q : String × String × Nat × List Int32} (hd : decode cc pc = .ok (.getstatic ix, 3)) (hq : q ∈ th_SA) (hlk : Cond.fieldLink own ix q.1 q.2.1 "[I" ∈ th_B)
    (k : th_G l z nL (pc + 3) lv (.inr (some (q.2.2.1, 0)) :: st) mu kc ks) : th_G l z nL pc lv st mu kc ks := by
  obtain ⟨p, e, R, s, m, args, below, meth, c, Q, D, cA, base, al⟩ := z
  obtain ⟨hx, hb, hml, hown, hts, hlo, hK, hST, hbs, hR, hr, htt, htr, hal⟩ := C
  intro H locs ls hw hS hl
  exact va_gets hx hb (hST.2.2.2 q hq).1 hS hown (hts _ hlk) (fun x h => h) hd (k H locs ls hw hS hl)
theorem th_slen (C : th_C l z cc nL own rm ret tb) {q : String × String × Nat × List Int32} {v : Int32} (hd : decode cc pc = .ok (.arraylength, 1)) (hq : q ∈ th_SA) (hv : Int32.ofNat q.2.2.2.length = v)
    (k : th_G l z nL (pc + 1) lv (.inl v :: st) mu kc ks) : th_G l z nL pc lv (.inr (some (q.2.2.1, 0)) :: st) mu kc ks := by
  obtain ⟨p, e, R, s, m, args, below, meth, c, Q, D, cA, base, al⟩ := z
  obtain ⟨hx, hb, hml, hown, hts, hlo, hK, hST, hbs, hR, hr, htt, htr, hal⟩ := C
  subst hv
  intro H locs ls hw hS hl
  obtain ⟨-, hX, hA⟩ := hST.2.2.2 q hq
  exact va_slen hx hb hX (Nat.lt_of_lt_of_le (Nat.not_le.mp hA) hbs) hA hS hd (k H locs ls hw hS hl)
theorem th_sld (C : th_C l z cc nL own rm ret tb) {q : String × String × Nat × List Int32} {x : Int32} {a : Int} (hd : decode cc pc = .ok (.iaload, 1)) (hq : q ∈ th_SA) (hx0 : x.toInt = a) (h0 : 0 ≤ a) (h1 : a < (q.2.2.2.length : Int))
    (k : ∀ (n : Nat) (y : Int32), (n : Int) = a → n < q.2.2.2.length → y = q.2.2.2.getD n 0 → th_G l z nL (pc + 1) lv (.inl y :: st) mu kc ks) : th_G l z nL pc lv (.inl x :: .inr (some (q.2.2.1, 0)) :: st) mu kc ks := by
  obtain ⟨n, ⟨h2, h2b⟩, h3, h4⟩ := th_ix_of hx0 h0 h1
  have k := k n _ h3 h4 rfl
  subst h2b
  obtain ⟨p, e, R, s, m, args, below, meth, c, Q, D, cA, base, al⟩ := z
  obtain ⟨hx, hb, hml, hown, hts, hlo, hK, hST, hbs, hR, hr, htt, htr, hal⟩ := C
  intro H locs ls hw hS hl
  obtain ⟨-, hX, hA⟩ := hST.2.2.2 q hq
  exact va_sld hx hb hX (Nat.lt_of_lt_of_le (Nat.not_le.mp hA) hbs) hA hS h2 hd (k H locs ls hw hS hl)
end TW
end
section
theorem th_lp_le (j : Nat) : 4 ≤ (th_lp j : Int) ∧ (th_lp j : Int) ≤ 12 := by
  unfold th_lp
  split <;> decide
theorem th_nI_12 {j : Nat} {x : Int32} (h : nI (th_lp j) = x) : x.toInt = (th_lp j : Int) := by
  subst h
  unfold th_lp
  split <;> decide
def th_ok (K sl : Int) (t i k : Nat) (v : Int) : Prop := match t with
  | 0 => (match k with
    | 5 => 0 ≤ v ∧ v ≤ K
    | 6 => v = sl
    | 7 => -1 ≤ v ∧ v ≤ 4
    | _ => True)
  | 6 => (match k with
    | 0 => v = (i : Int) ∨ 5 ≤ i
    | 6 => 0 ≤ v ∧ v ≤ 24
    | 8 => 0 ≤ v ∧ v ≤ 24
    | 13 => 0 ≤ v ∧ v ≤ 2
    | 14 => 0 ≤ v ∧ v ≤ 2
    | 16 => 0 ≤ v ∧ v ≤ 4
    | 17 => 0 ≤ v ∧ v ≤ 3
    | _ => True)
  | 7 => (match k with
    | 3 => 0 ≤ v ∧ v ≤ 24
    | _ => True)
  | 11 => (match k with
    | 2 => 0 ≤ v ∧ v ≤ (th_lp i : Int)
    | _ => True)
  | 12 => 0 ≤ v ∧ v ≤ 3
  | 14 => (match k with
    | 1 => 0 ≤ v ∧ v ≤ 5
    | _ => True)
  | 15 => 0 ≤ v ∧ v ≤ 4
  | _ => True
def th_valid (o a b : Int) : Prop := (0 ≤ o ∧ o ≤ 20) ∧ (o ≤ 4 ∨ o = 15 ∨ (17 ≤ o ∧ o ≤ 19) → 0 ≤ a ∧ a ≤ 3) ∧ (5 ≤ o ∧ o ≤ 10 → 0 ≤ a ∧ a ≤ 2) ∧ (11 ≤ o ∧ o ≤ 13 → 0 ≤ a ∧ a ≤ 4) ∧ (o = 14 ∨ o = 16 → 0 ≤ a ∧ a ≤ 24) ∧ (o = 2 ∨ o = 7 ∨ o = 12 → 0 ≤ b ∧ b ≤ 3) ∧ (o = 8 → 0 ≤ b ∧ b ≤ 2) ∧ (o = 17 → 0 ≤ b ∧ b ≤ 24)
def th_Inv (K sl : Int) (Z I : th_I) : Prop := (∀ t i k, th_ok K sl t i k (I t i k).toInt) ∧ (∀ i k, th_valid (I 8 i k).toInt (I 9 i k).toInt (I 10 i k).toInt) ∧ (1 ≤ sl ∧ sl ≤ 20 ∧ 0 ≤ K ∧ K ≤ 1000000) ∧ ∀ t i k, 17 ≤ t → I t i k = Z t i k
theorem th_put {K sl : Int} {Z I : th_I} {t i k : Nat} {v : Int32} (hI : th_Inv K sl Z I) (ht : t < 8 ∨ (10 < t ∧ t < 17)) (h : th_ok K sl t i k v.toInt) : th_Inv K sl Z (th_u I t i k v) := by
  obtain ⟨h1, h2, h3, h4⟩ := hI
  refine ⟨fun t' i' k' => ?_, fun i' k' => ?_, h3, fun t' i' k' q => by rw [th_u_tag (by omega)]; exact h4 t' i' k' q⟩
  · rcases th_u_or I t i k v t' i' k' with ⟨rfl, rfl, rfl, e⟩ | e
    · rw [e]; exact h
    · rw [e]; exact h1 t' i' k'
  · rw [th_u_tag (by omega), th_u_tag (by omega), th_u_tag (by omega)]
    exact h2 i' k'
theorem th_ok_mono {K K' sl v : Int} {t i k : Nat} (h : th_ok K sl t i k v) (hK : K ≤ K') : th_ok K' sl t i k v := by
  unfold th_ok at h ⊢
  split at h <;> first | exact h | (split at h <;> first | exact h | exact ⟨h.1, Int.le_trans h.2 hK⟩)
theorem th_mono {K K' sl : Int} {Z I : th_I} (hI : th_Inv K sl Z I) (hK : K ≤ K') (h2 : K' ≤ 1000000) : th_Inv K' sl Z I := by
  obtain ⟨h1, g2, ⟨h3, h4, h5, h6⟩, h7⟩ := hI
  exact ⟨fun t i k => th_ok_mono (h1 t i k) hK, g2, ⟨h3, h4, Int.le_trans h5 hK, h2⟩, h7⟩
theorem th_app {K sl : Int} {Z I : th_I} {i n1 n2 n3 : Nat} {a b c x : Int32} (hI : th_Inv K sl Z I) (h2 : n2 = n1) (h3 : n3 = n1) (hv : th_valid a.toInt b.toInt c.toInt) (hx : 0 ≤ x.toInt ∧ x.toInt ≤ 24) : th_Inv K sl Z (th_u (th_u (th_u (th_u I 8 i n1 a) 9 i n2 b) 10 i n3 c) 7 i 3 x) := by
  subst h2; subst h3
  obtain ⟨g1, g2, g3, g4⟩ := hI
  refine th_put ⟨fun t' i' k' => ?_, fun i' k' => ?_, g3, fun t' i' k' q => by rw [th_u_tag (by omega), th_u_tag (by omega), th_u_tag (by omega)]; exact g4 t' i' k' q⟩ (by decide) hx
  · rcases th_u_or (th_u (th_u I 8 i n3 a) 9 i n3 b) 10 i n3 c t' i' k' with ⟨rfl, rfl, rfl, -⟩ | e
    · exact trivial
    · rw [e]
      rcases th_u_or (th_u I 8 i n3 a) 9 i n3 b t' i' k' with ⟨rfl, rfl, rfl, -⟩ | e
      · exact trivial
      · rw [e]
        rcases th_u_or I 8 i n3 a t' i' k' with ⟨rfl, rfl, rfl, -⟩ | e
        · exact trivial
        · rw [e]; exact g1 t' i' k'
  · by_cases hq : i' = i ∧ k' = n3
    · obtain ⟨rfl, rfl⟩ := hq
      rw [th_u_tag (t' := 8) (by decide), th_u_tag (t' := 8) (by decide), th_u_eq, th_u_tag (t' := 9) (by decide), th_u_eq, th_u_eq]
      exact hv
    · have e : ∀ (J : th_I) (t : Nat) (v : Int32), th_u J t i n3 v t i' k' = J t i' k' := by
        intro J t v
        rcases th_u_or J t i n3 v t i' k' with ⟨-, q1, q2, -⟩ | e
        · exact absurd ⟨q1, q2⟩ hq
        · exact e
      rw [th_u_tag (t' := 8) (by decide), th_u_tag (t' := 8) (by decide), e, th_u_tag (t' := 9) (by decide), e, th_u_tag (t' := 9) (by decide), e, th_u_tag (t' := 10) (by decide), th_u_tag (t' := 10) (by decide)]
      exact g2 i' k'
def th_I0 : th_I := fun t i k => match t with
  | 0 => if k = 6 then 4 else if k = 7 then -1 else 0
  | 6 => if k = 0 then nI i else if k = 8 then 24 else 0
  | 16 => if k = 1 then -1 else 0
  | 20 => if k = 33 then 4 else 0
  | 35 => 24
  | 44 => -1
  | 53 => if k = 6 then -1 else 0
  | _ => 0
def th_Of (A J : th_I) : Prop := (∀ t i k, 20 ≤ t → J t i k = th_I0 t i k) ∧ (∀ i k, J 17 i k = A 17 i k)
theorem th_zn {v : Int32} (h : v.toInt = 1 ∨ v.toInt = 0) : narrow .boolean (.int v) = .int v := by
  rcases h with h | h
  · rw [show v = 1 from th_eqi (h.trans (by decide))]
    rfl
  · rw [show v = 0 from th_eqi (h.trans (by decide))]
    rfl
theorem th_c53 {x : Int32} {n : Nat} (e : x = th_I0 53 0 n) : (x.toInt = -1 ∧ n = 6) ∨ (x.toInt = 0 ∧ n ≠ 6) := by
  have e : x = if n = 6 then -1 else 0 := e
  by_cases h : n = 6
  · rw [if_pos h] at e
    subst e
    exact Or.inl ⟨by decide, h⟩
  · rw [if_neg h] at e
    subst e
    exact Or.inr ⟨by decide, h⟩
theorem th_oput {A I : th_I} {t i k : Nat} {v : Int32} (h : th_Of A I) (ht : t ≠ 17) (hv : th_I0 t i k = v) : th_Of A (th_u I t i k v) := by
  refine ⟨fun t' i' k' q => ?_, fun i' k' => ?_⟩
  · rcases th_u_or I t i k v t' i' k' with ⟨rfl, rfl, rfl, e⟩ | e
    · rw [e, hv]
    · rw [e]; exact h.1 t' i' k' q
  · rw [th_u_tag (by omega)]; exact h.2 i' k'
theorem th_rem5 {x : Int32} (h0 : 0 ≤ x.toInt) (h1 : x.toInt ≤ 20) : 0 ≤ (x - x / 5 * 5).toInt ∧ (x - x / 5 * 5).toInt ≤ 4 := by
  have key : ∀ n : Nat, n < 21 → 0 ≤ (Int32.ofInt (n : Int) - Int32.ofInt (n : Int) / 5 * 5).toInt ∧ (Int32.ofInt (n : Int) - Int32.ofInt (n : Int) / 5 * 5).toInt ≤ 4 := by decide +kernel
  have hx : x = Int32.ofInt x.toInt := (Int32.ofInt_toInt x).symm
  obtain ⟨n, hn⟩ : ∃ n : Nat, x.toInt = (n : Int) := ⟨x.toInt.toNat, by omega⟩
  rw [hn] at hx
  rw [hx]
  exact key n (by omega)
theorem th_f1 : ∀ n : Nat, n < 21 → (n ≤ 4 ∧ (th_s91.2.2.2.getD n 0).toInt = 4) ∨ (5 ≤ n ∧ n ≤ 10 ∧ (th_s91.2.2.2.getD n 0).toInt = 3) ∨ (11 ≤ n ∧ n ≤ 13 ∧ (th_s91.2.2.2.getD n 0).toInt = 5) ∨ ((n = 14 ∨ n = 16) ∧ (th_s91.2.2.2.getD n 0).toInt = 25) ∨ ((n = 15 ∨ (17 ≤ n ∧ n ≤ 19)) ∧ (th_s91.2.2.2.getD n 0).toInt = 4) ∨ (n = 20 ∧ (th_s91.2.2.2.getD n 0).toInt = 0) := by decide +kernel
theorem th_f2 : ∀ n : Nat, n < 21 → ((n = 2 ∨ n = 7 ∨ n = 12) ∧ (th_s92.2.2.2.getD n 0).toInt = 4) ∨ (n = 8 ∧ (th_s92.2.2.2.getD n 0).toInt = 3) ∨ (n = 17 ∧ (th_s92.2.2.2.getD n 0).toInt = 25) ∨ (¬ (n = 2 ∨ n = 7 ∨ n = 12 ∨ n = 8 ∨ n = 17) ∧ (th_s92.2.2.2.getD n 0).toInt = 0) := by decide +kernel
theorem th_val_of {o a b : Int} {n1 n2 : Nat} {y1 y2 : Int32} (h1 : n1 < 21) (h2 : n2 < 21) (m1 : (n1 : Int) = o) (e1 : y1 = th_s91.2.2.2.getD n1 0) (m2 : (n2 : Int) = o) (e2 : y2 = th_s92.2.2.2.getD n2 0) (p1 : 0 < y1.toInt → 0 ≤ a ∧ a < y1.toInt) (p2 : 0 < y2.toInt → 0 ≤ b ∧ b < y2.toInt) : th_valid o a b := by
  have f1 := th_f1 n1 h1
  have f2 := th_f2 n2 h2
  rw [← e1] at f1
  rw [← e2] at f2
  unfold th_valid
  refine ⟨?_, ?_, ?_, ?_, ?_, ?_, ?_, ?_⟩ <;> omega
theorem th_val_a {o a b : Int} {n1 : Nat} {y1 : Int32} (h1 : n1 < 21) (m1 : (n1 : Int) = o) (e1 : y1 = th_s91.2.2.2.getD n1 0) (h : th_valid o a b) : 0 < y1.toInt → 0 ≤ a ∧ a < y1.toInt := by
  have f1 := th_f1 n1 h1
  rw [← e1] at f1
  unfold th_valid at h
  omega
theorem th_val_b {o a b : Int} {n1 : Nat} {y1 : Int32} (h1 : n1 < 21) (m1 : (n1 : Int) = o) (e1 : y1 = th_s92.2.2.2.getD n1 0) (h : th_valid o a b) : 0 < y1.toInt → 0 ≤ b ∧ b < y1.toInt := by
  have f1 := th_f2 n1 h1
  rw [← e1] at f1
  unfold th_valid at h
  omega
theorem th_nI5 : ∀ i : Nat, i < 5 → (nI i).toInt = (i : Int) := by decide +kernel
theorem hth_I0 : th_Inv 0 4 th_I0 th_I0 := by
  have h0 : (0 : Int32).toInt = 0 := by decide
  refine ⟨fun t i k => ?_, fun i k => ?_, by omega, fun _ _ _ _ => rfl⟩
  · unfold th_ok
    split
    · split
      · exact ⟨by show 0 ≤ (0 : Int32).toInt; omega, by show (0 : Int32).toInt ≤ 0; omega⟩
      · show (4 : Int32).toInt = 4
        decide
      · show -1 ≤ (-1 : Int32).toInt ∧ (-1 : Int32).toInt ≤ 4
        decide
      · trivial
    · split
      · show (nI i).toInt = (i : Int) ∨ 5 ≤ i
        by_cases h : i < 5
        · exact Or.inl (th_nI5 i h)
        · exact Or.inr (by omega)
      · exact ⟨by show 0 ≤ (0 : Int32).toInt; omega, by show (0 : Int32).toInt ≤ 24; omega⟩
      · show 0 ≤ (24 : Int32).toInt ∧ (24 : Int32).toInt ≤ 24
        decide
      · exact ⟨by show 0 ≤ (0 : Int32).toInt; omega, by show (0 : Int32).toInt ≤ 2; omega⟩
      · exact ⟨by show 0 ≤ (0 : Int32).toInt; omega, by show (0 : Int32).toInt ≤ 2; omega⟩
      · exact ⟨by show 0 ≤ (0 : Int32).toInt; omega, by show (0 : Int32).toInt ≤ 4; omega⟩
      · exact ⟨by show 0 ≤ (0 : Int32).toInt; omega, by show (0 : Int32).toInt ≤ 3; omega⟩
      · trivial
    · split
      · exact ⟨by show 0 ≤ (0 : Int32).toInt; omega, by show (0 : Int32).toInt ≤ 24; omega⟩
      · trivial
    · split
      · have := th_lp_le i
        exact ⟨by show 0 ≤ (0 : Int32).toInt; omega, by show (0 : Int32).toInt ≤ (th_lp i : Int); omega⟩
      · trivial
    · exact ⟨by show 0 ≤ (0 : Int32).toInt; omega, by show (0 : Int32).toInt ≤ 3; omega⟩
    · split
      · exact ⟨by show 0 ≤ (0 : Int32).toInt; omega, by show (0 : Int32).toInt ≤ 5; omega⟩
      · trivial
    · exact ⟨by show 0 ≤ (0 : Int32).toInt; omega, by show (0 : Int32).toInt ≤ 4; omega⟩
    · trivial
  · show th_valid (0 : Int32).toInt (0 : Int32).toInt (0 : Int32).toInt
    unfold th_valid
    omega

theorem tb {w : Cond} (n : Nat) (h : lw_tbl[n]? = some w) (g : goodWord w = true) : w ∈ th_B := List.mem_filter.mpr ⟨List.mem_of_getElem? h, g⟩
theorem tn {w : Cond} (n : Nat) (h : lw_tbl[n]? = some w) (g : th_nk w = true) : w ∈ th_NB := List.mem_filter.mpr ⟨List.mem_of_getElem? h, g⟩
end
section
theorem cl_16 : th_cl 16 0 rn_M tf_M 3 ft_M := ⟨rfl, rfl, by decide +kernel, ft_M_ok, nm_M⟩
theorem cl_11 : th_cl 11 1 rn_Q tf_Q 3 ft_Q := ⟨rfl, rfl, by decide +kernel, ft_Q_ok, nm_Q⟩
theorem cl_7 : th_cl 7 2 rn_P tf_P 4 ft_P := ⟨rfl, rfl, by decide +kernel, ft_P_ok, nm_P⟩
theorem cl_14 : th_cl 14 3 rn_R tf_R 2 ft_R := ⟨rfl, rfl, by decide +kernel, ft_R_ok, nm_R⟩
theorem cl_6 : th_cl 6 4 rn_S tf_S 18 ft_S := ⟨rfl, rfl, by decide +kernel, ft_S_ok, nm_S⟩
theorem cl_0 : th_cl 0 5 rn_H tf_H 12 ft_H := ⟨rfl, rfl, by decide +kernel, ft_H_ok, nm_H⟩
theorem cl_20 : th_cl 20 6 rn_O tf_O 36 ft_O := ⟨rfl, rfl, by decide +kernel, ft_O_ok, nm_O⟩
theorem dc_S_isAlive_0 : decode cb_S_isAlive 0 = .ok (.aload_n 0, 1) := by decide +kernel
theorem dc_S_isAlive_1 : decode cb_S_isAlive 1 = .ok (.getfield 37, 3) := by decide +kernel
theorem dc_S_isAlive_4 : decode cb_S_isAlive 4 = .ok (.ifCond .eq 15, 3) := by decide +kernel
theorem dc_S_isAlive_7 : decode cb_S_isAlive 7 = .ok (.aload_n 0, 1) := by decide +kernel
theorem dc_S_isAlive_8 : decode cb_S_isAlive 8 = .ok (.getfield 37, 3) := by decide +kernel
theorem dc_S_isAlive_11 : decode cb_S_isAlive 11 = .ok (.iconst 5, 1) := by decide +kernel
theorem dc_S_isAlive_12 : decode cb_S_isAlive 12 = .ok (.if_icmp .eq 7, 3) := by decide +kernel
theorem dc_S_isAlive_15 : decode cb_S_isAlive 15 = .ok (.iconst 1, 1) := by decide +kernel
theorem dc_S_isAlive_16 : decode cb_S_isAlive 16 = .ok (.goto 4, 3) := by decide +kernel
theorem dc_S_isAlive_19 : decode cb_S_isAlive 19 = .ok (.iconst 0, 1) := by decide +kernel
theorem dc_S_isAlive_20 : decode cb_S_isAlive 20 = .ok (.ireturn, 1) := by decide +kernel
theorem dc_S_forgetInterrupt_0 : decode cb_S_forgetInterrupt 0 = .ok (.aload_n 0, 1) := by decide +kernel
theorem dc_S_forgetInterrupt_1 : decode cb_S_forgetInterrupt 1 = .ok (.iconst 0, 1) := by decide +kernel
theorem dc_S_forgetInterrupt_2 : decode cb_S_forgetInterrupt 2 = .ok (.putfield 65, 3) := by decide +kernel
theorem dc_S_forgetInterrupt_5 : decode cb_S_forgetInterrupt 5 = .ok (.aload_n 0, 1) := by decide +kernel
theorem dc_S_forgetInterrupt_6 : decode cb_S_forgetInterrupt 6 = .ok (.iconst 0, 1) := by decide +kernel
theorem dc_S_forgetInterrupt_7 : decode cb_S_forgetInterrupt 7 = .ok (.putfield 69, 3) := by decide +kernel
theorem dc_S_forgetInterrupt_10 : decode cb_S_forgetInterrupt 10 = .ok (.return_, 1) := by decide +kernel
theorem dc_S_forgetAll_0 : decode cb_S_forgetAll 0 = .ok (.aload_n 0, 1) := by decide +kernel
theorem dc_S_forgetAll_1 : decode cb_S_forgetAll 1 = .ok (.getfield 23, 3) := by decide +kernel
theorem dc_S_forgetAll_4 : decode cb_S_forgetAll 4 = .ok (.iconst 0, 1) := by decide +kernel
theorem dc_S_forgetAll_5 : decode cb_S_forgetAll 5 = .ok (.putfield 59, 3) := by decide +kernel
theorem dc_S_forgetAll_8 : decode cb_S_forgetAll 8 = .ok (.aload_n 0, 1) := by decide +kernel
theorem dc_S_forgetAll_9 : decode cb_S_forgetAll 9 = .ok (.getfield 27, 3) := by decide +kernel
theorem dc_S_forgetAll_12 : decode cb_S_forgetAll 12 = .ok (.iconst 0, 1) := by decide +kernel
theorem dc_S_forgetAll_13 : decode cb_S_forgetAll 13 = .ok (.putfield 59, 3) := by decide +kernel
theorem dc_S_forgetAll_16 : decode cb_S_forgetAll 16 = .ok (.aload_n 0, 1) := by decide +kernel
theorem dc_S_forgetAll_17 : decode cb_S_forgetAll 17 = .ok (.bipush 24, 2) := by decide +kernel
theorem dc_S_forgetAll_19 : decode cb_S_forgetAll 19 = .ok (.putfield 41, 3) := by decide +kernel
theorem dc_S_forgetAll_22 : decode cb_S_forgetAll 22 = .ok (.aload_n 0, 1) := by decide +kernel
theorem dc_S_forgetAll_23 : decode cb_S_forgetAll 23 = .ok (.invokevirtual 62, 3) := by decide +kernel
theorem dc_S_forgetAll_26 : decode cb_S_forgetAll 26 = .ok (.return_, 1) := by decide +kernel
theorem dc_S_beginAnew_0 : decode cb_S_beginAnew 0 = .ok (.aload_n 0, 1) := by decide +kernel
theorem dc_S_beginAnew_1 : decode cb_S_beginAnew 1 = .ok (.invokevirtual 47, 3) := by decide +kernel
theorem dc_S_beginAnew_4 : decode cb_S_beginAnew 4 = .ok (.aload_n 0, 1) := by decide +kernel
theorem dc_S_beginAnew_5 : decode cb_S_beginAnew 5 = .ok (.iconst 1, 1) := by decide +kernel
theorem dc_S_beginAnew_6 : decode cb_S_beginAnew 6 = .ok (.putfield 37, 3) := by decide +kernel
theorem dc_S_beginAnew_9 : decode cb_S_beginAnew 9 = .ok (.aload_n 0, 1) := by decide +kernel
theorem dc_S_beginAnew_10 : decode cb_S_beginAnew 10 = .ok (.iconst 0, 1) := by decide +kernel
theorem dc_S_beginAnew_11 : decode cb_S_beginAnew 11 = .ok (.putfield 50, 3) := by decide +kernel
theorem dc_S_beginAnew_14 : decode cb_S_beginAnew 14 = .ok (.aload_n 0, 1) := by decide +kernel
theorem dc_S_beginAnew_15 : decode cb_S_beginAnew 15 = .ok (.iconst 0, 1) := by decide +kernel
theorem dc_S_beginAnew_16 : decode cb_S_beginAnew 16 = .ok (.putfield 53, 3) := by decide +kernel
theorem dc_S_beginAnew_19 : decode cb_S_beginAnew 19 = .ok (.aload_n 0, 1) := by decide +kernel
theorem dc_S_beginAnew_20 : decode cb_S_beginAnew 20 = .ok (.dup, 1) := by decide +kernel
theorem dc_S_beginAnew_21 : decode cb_S_beginAnew 21 = .ok (.getfield 56, 3) := by decide +kernel
theorem dc_S_beginAnew_24 : decode cb_S_beginAnew 24 = .ok (.iconst 1, 1) := by decide +kernel
theorem dc_S_beginAnew_25 : decode cb_S_beginAnew 25 = .ok (.iadd, 1) := by decide +kernel
theorem dc_S_beginAnew_26 : decode cb_S_beginAnew 26 = .ok (.putfield 56, 3) := by decide +kernel
theorem dc_S_beginAnew_29 : decode cb_S_beginAnew 29 = .ok (.return_, 1) := by decide +kernel
theorem dc_P_append_0 : decode cb_P_append 0 = .ok (.aload_n 0, 1) := by decide +kernel
theorem dc_P_append_1 : decode cb_P_append 1 = .ok (.getfield 21, 3) := by decide +kernel
theorem dc_P_append_4 : decode cb_P_append 4 = .ok (.bipush 24, 2) := by decide +kernel
theorem dc_P_append_6 : decode cb_P_append 6 = .ok (.if_icmp .ge 43, 3) := by decide +kernel
theorem dc_P_append_9 : decode cb_P_append 9 = .ok (.aload_n 0, 1) := by decide +kernel
theorem dc_P_append_10 : decode cb_P_append 10 = .ok (.getfield 9, 3) := by decide +kernel
theorem dc_P_append_13 : decode cb_P_append 13 = .ok (.aload_n 0, 1) := by decide +kernel
theorem dc_P_append_14 : decode cb_P_append 14 = .ok (.getfield 21, 3) := by decide +kernel
theorem dc_P_append_17 : decode cb_P_append 17 = .ok (.iload_n 1, 1) := by decide +kernel
theorem dc_P_append_18 : decode cb_P_append 18 = .ok (.iastore, 1) := by decide +kernel
theorem dc_P_append_19 : decode cb_P_append 19 = .ok (.aload_n 0, 1) := by decide +kernel
theorem dc_P_append_20 : decode cb_P_append 20 = .ok (.getfield 15, 3) := by decide +kernel
theorem dc_P_append_23 : decode cb_P_append 23 = .ok (.aload_n 0, 1) := by decide +kernel
theorem dc_P_append_24 : decode cb_P_append 24 = .ok (.getfield 21, 3) := by decide +kernel
theorem dc_P_append_27 : decode cb_P_append 27 = .ok (.iload_n 2, 1) := by decide +kernel
theorem dc_P_append_28 : decode cb_P_append 28 = .ok (.iastore, 1) := by decide +kernel
theorem dc_P_append_29 : decode cb_P_append 29 = .ok (.aload_n 0, 1) := by decide +kernel
theorem dc_P_append_30 : decode cb_P_append 30 = .ok (.getfield 18, 3) := by decide +kernel
theorem dc_P_append_33 : decode cb_P_append 33 = .ok (.aload_n 0, 1) := by decide +kernel
theorem dc_P_append_34 : decode cb_P_append 34 = .ok (.getfield 21, 3) := by decide +kernel
theorem dc_P_append_37 : decode cb_P_append 37 = .ok (.iload_n 3, 1) := by decide +kernel
theorem dc_P_append_38 : decode cb_P_append 38 = .ok (.iastore, 1) := by decide +kernel
theorem dc_P_append_39 : decode cb_P_append 39 = .ok (.aload_n 0, 1) := by decide +kernel
theorem dc_P_append_40 : decode cb_P_append 40 = .ok (.dup, 1) := by decide +kernel
theorem dc_P_append_41 : decode cb_P_append 41 = .ok (.getfield 21, 3) := by decide +kernel
theorem dc_P_append_44 : decode cb_P_append 44 = .ok (.iconst 1, 1) := by decide +kernel
theorem dc_P_append_45 : decode cb_P_append 45 = .ok (.iadd, 1) := by decide +kernel
theorem dc_P_append_46 : decode cb_P_append 46 = .ok (.putfield 21, 3) := by decide +kernel
theorem dc_P_append_49 : decode cb_P_append 49 = .ok (.return_, 1) := by decide +kernel
theorem dc_Q_latest_0 : decode cb_Q_latest 0 = .ok (.aload_n 0, 1) := by decide +kernel
theorem dc_Q_latest_1 : decode cb_Q_latest 1 = .ok (.getfield 18, 3) := by decide +kernel
theorem dc_Q_latest_4 : decode cb_Q_latest 4 = .ok (.iconst 1, 1) := by decide +kernel
theorem dc_Q_latest_5 : decode cb_Q_latest 5 = .ok (.isub, 1) := by decide +kernel
theorem dc_Q_latest_6 : decode cb_Q_latest 6 = .ok (.istore_n 2, 1) := by decide +kernel
theorem dc_Q_latest_7 : decode cb_Q_latest 7 = .ok (.iload_n 2, 1) := by decide +kernel
theorem dc_Q_latest_8 : decode cb_Q_latest 8 = .ok (.ifCond .lt 21, 3) := by decide +kernel
theorem dc_Q_latest_11 : decode cb_Q_latest 11 = .ok (.aload_n 0, 1) := by decide +kernel
theorem dc_Q_latest_12 : decode cb_Q_latest 12 = .ok (.getfield 9, 3) := by decide +kernel
theorem dc_Q_latest_15 : decode cb_Q_latest 15 = .ok (.iload_n 2, 1) := by decide +kernel
theorem dc_Q_latest_16 : decode cb_Q_latest 16 = .ok (.iaload, 1) := by decide +kernel
theorem dc_Q_latest_17 : decode cb_Q_latest 17 = .ok (.iload_n 1, 1) := by decide +kernel
theorem dc_Q_latest_18 : decode cb_Q_latest 18 = .ok (.if_icmp .ne 5, 3) := by decide +kernel
theorem dc_Q_latest_21 : decode cb_Q_latest 21 = .ok (.iload_n 2, 1) := by decide +kernel
theorem dc_Q_latest_22 : decode cb_Q_latest 22 = .ok (.ireturn, 1) := by decide +kernel
theorem dc_Q_latest_23 : decode cb_Q_latest 23 = .ok (.iinc 2 (-1), 3) := by decide +kernel
theorem dc_Q_latest_26 : decode cb_Q_latest 26 = .ok (.goto (-19), 3) := by decide +kernel
theorem dc_Q_latest_29 : decode cb_Q_latest 29 = .ok (.iconst (-1), 1) := by decide +kernel
theorem dc_Q_latest_30 : decode cb_Q_latest 30 = .ok (.ireturn, 1) := by decide +kernel
theorem dc_H_requireBetween_0 : decode cb_H_requireBetween 0 = .ok (.iload_n 0, 1) := by decide +kernel
theorem dc_H_requireBetween_1 : decode cb_H_requireBetween 1 = .ok (.iload_n 1, 1) := by decide +kernel
theorem dc_H_requireBetween_2 : decode cb_H_requireBetween 2 = .ok (.if_icmp .lt 8, 3) := by decide +kernel
theorem dc_H_requireBetween_5 : decode cb_H_requireBetween 5 = .ok (.iload_n 0, 1) := by decide +kernel
theorem dc_H_requireBetween_6 : decode cb_H_requireBetween 6 = .ok (.iload_n 2, 1) := by decide +kernel
theorem dc_H_requireBetween_7 : decode cb_H_requireBetween 7 = .ok (.if_icmp .le 11, 3) := by decide +kernel
theorem dc_H_requireBetween_10 : decode cb_H_requireBetween 10 = .ok (.new 143, 3) := by decide +kernel
theorem dc_H_requireBetween_13 : decode cb_H_requireBetween 13 = .ok (.dup, 1) := by decide +kernel
theorem dc_H_requireBetween_14 : decode cb_H_requireBetween 14 = .ok (.invokespecial 145, 3) := by decide +kernel
theorem dc_H_requireBetween_17 : decode cb_H_requireBetween 17 = .ok (.athrow, 1) := by decide +kernel
theorem dc_H_requireBetween_18 : decode cb_H_requireBetween 18 = .ok (.return_, 1) := by decide +kernel
theorem dc_H_requireBelow_0 : decode cb_H_requireBelow 0 = .ok (.iload_n 0, 1) := by decide +kernel
theorem dc_H_requireBelow_1 : decode cb_H_requireBelow 1 = .ok (.iconst 0, 1) := by decide +kernel
theorem dc_H_requireBelow_2 : decode cb_H_requireBelow 2 = .ok (.iload_n 1, 1) := by decide +kernel
theorem dc_H_requireBelow_3 : decode cb_H_requireBelow 3 = .ok (.iconst 1, 1) := by decide +kernel
theorem dc_H_requireBelow_4 : decode cb_H_requireBelow 4 = .ok (.isub, 1) := by decide +kernel
theorem dc_H_requireBelow_5 : decode cb_H_requireBelow 5 = .ok (.invokestatic 86, 3) := by decide +kernel
theorem dc_H_requireBelow_8 : decode cb_H_requireBelow 8 = .ok (.return_, 1) := by decide +kernel
theorem dc_H_requireOperand_0 : decode cb_H_requireOperand 0 = .ok (.iload_n 1, 1) := by decide +kernel
theorem dc_H_requireOperand_1 : decode cb_H_requireOperand 1 = .ok (.ifCond .le 8, 3) := by decide +kernel
theorem dc_H_requireOperand_4 : decode cb_H_requireOperand 4 = .ok (.iload_n 0, 1) := by decide +kernel
theorem dc_H_requireOperand_5 : decode cb_H_requireOperand 5 = .ok (.iload_n 1, 1) := by decide +kernel
theorem dc_H_requireOperand_6 : decode cb_H_requireOperand 6 = .ok (.invokestatic 46, 3) := by decide +kernel
theorem dc_H_requireOperand_9 : decode cb_H_requireOperand 9 = .ok (.return_, 1) := by decide +kernel
theorem dc_H_requireNotAlive_0 : decode cb_H_requireNotAlive 0 = .ok (.aload_n 0, 1) := by decide +kernel
theorem dc_H_requireNotAlive_1 : decode cb_H_requireNotAlive 1 = .ok (.invokevirtual 79, 3) := by decide +kernel
theorem dc_H_requireNotAlive_4 : decode cb_H_requireNotAlive 4 = .ok (.ifCond .eq 11, 3) := by decide +kernel
theorem dc_H_requireNotAlive_7 : decode cb_H_requireNotAlive 7 = .ok (.new 173, 3) := by decide +kernel
theorem dc_H_requireNotAlive_10 : decode cb_H_requireNotAlive 10 = .ok (.dup, 1) := by decide +kernel
theorem dc_H_requireNotAlive_11 : decode cb_H_requireNotAlive 11 = .ok (.invokespecial 175, 3) := by decide +kernel
theorem dc_H_requireNotAlive_14 : decode cb_H_requireNotAlive 14 = .ok (.athrow, 1) := by decide +kernel
theorem dc_H_requireNotAlive_15 : decode cb_H_requireNotAlive 15 = .ok (.return_, 1) := by decide +kernel
theorem dc_H_nextReady_0 : decode cb_H_nextReady 0 = .ok (.iconst 1, 1) := by decide +kernel
theorem dc_H_nextReady_1 : decode cb_H_nextReady 1 = .ok (.istore_n 1, 1) := by decide +kernel
theorem dc_H_nextReady_2 : decode cb_H_nextReady 2 = .ok (.iload_n 1, 1) := by decide +kernel
theorem dc_H_nextReady_3 : decode cb_H_nextReady 3 = .ok (.iconst 5, 1) := by decide +kernel
theorem dc_H_nextReady_4 : decode cb_H_nextReady 4 = .ok (.if_icmp .gt 33, 3) := by decide +kernel
theorem dc_H_nextReady_7 : decode cb_H_nextReady 7 = .ok (.aload_n 0, 1) := by decide +kernel
theorem dc_H_nextReady_8 : decode cb_H_nextReady 8 = .ok (.getfield 43, 3) := by decide +kernel
theorem dc_H_nextReady_11 : decode cb_H_nextReady 11 = .ok (.iload_n 1, 1) := by decide +kernel
theorem dc_H_nextReady_12 : decode cb_H_nextReady 12 = .ok (.iadd, 1) := by decide +kernel
theorem dc_H_nextReady_13 : decode cb_H_nextReady 13 = .ok (.iconst 5, 1) := by decide +kernel
theorem dc_H_nextReady_14 : decode cb_H_nextReady 14 = .ok (.irem, 1) := by decide +kernel
theorem dc_H_nextReady_15 : decode cb_H_nextReady 15 = .ok (.istore_n 2, 1) := by decide +kernel
theorem dc_H_nextReady_16 : decode cb_H_nextReady 16 = .ok (.aload_n 0, 1) := by decide +kernel
theorem dc_H_nextReady_17 : decode cb_H_nextReady 17 = .ok (.getfield 11, 3) := by decide +kernel
theorem dc_H_nextReady_20 : decode cb_H_nextReady 20 = .ok (.iload_n 2, 1) := by decide +kernel
theorem dc_H_nextReady_21 : decode cb_H_nextReady 21 = .ok (.aaload, 1) := by decide +kernel
theorem dc_H_nextReady_22 : decode cb_H_nextReady 22 = .ok (.getfield 106, 3) := by decide +kernel
theorem dc_H_nextReady_25 : decode cb_H_nextReady 25 = .ok (.iconst 1, 1) := by decide +kernel
theorem dc_H_nextReady_26 : decode cb_H_nextReady 26 = .ok (.if_icmp .ne 5, 3) := by decide +kernel
theorem dc_H_nextReady_29 : decode cb_H_nextReady 29 = .ok (.iload_n 2, 1) := by decide +kernel
theorem dc_H_nextReady_30 : decode cb_H_nextReady 30 = .ok (.ireturn, 1) := by decide +kernel
theorem dc_H_nextReady_31 : decode cb_H_nextReady 31 = .ok (.iinc 1 1, 3) := by decide +kernel
theorem dc_H_nextReady_34 : decode cb_H_nextReady 34 = .ok (.goto (-32), 3) := by decide +kernel
theorem dc_H_nextReady_37 : decode cb_H_nextReady 37 = .ok (.iconst (-1), 1) := by decide +kernel
theorem dc_H_nextReady_38 : decode cb_H_nextReady 38 = .ok (.ireturn, 1) := by decide +kernel
theorem dc_H_aliveCount_0 : decode cb_H_aliveCount 0 = .ok (.iconst 0, 1) := by decide +kernel
theorem dc_H_aliveCount_1 : decode cb_H_aliveCount 1 = .ok (.istore_n 1, 1) := by decide +kernel
theorem dc_H_aliveCount_2 : decode cb_H_aliveCount 2 = .ok (.iconst 0, 1) := by decide +kernel
theorem dc_H_aliveCount_3 : decode cb_H_aliveCount 3 = .ok (.istore_n 2, 1) := by decide +kernel
theorem dc_H_aliveCount_4 : decode cb_H_aliveCount 4 = .ok (.iload_n 2, 1) := by decide +kernel
theorem dc_H_aliveCount_5 : decode cb_H_aliveCount 5 = .ok (.iconst 5, 1) := by decide +kernel
theorem dc_H_aliveCount_6 : decode cb_H_aliveCount 6 = .ok (.if_icmp .ge 24, 3) := by decide +kernel
theorem dc_H_aliveCount_9 : decode cb_H_aliveCount 9 = .ok (.aload_n 0, 1) := by decide +kernel
theorem dc_H_aliveCount_10 : decode cb_H_aliveCount 10 = .ok (.getfield 11, 3) := by decide +kernel
theorem dc_H_aliveCount_13 : decode cb_H_aliveCount 13 = .ok (.iload_n 2, 1) := by decide +kernel
theorem dc_H_aliveCount_14 : decode cb_H_aliveCount 14 = .ok (.aaload, 1) := by decide +kernel
theorem dc_H_aliveCount_15 : decode cb_H_aliveCount 15 = .ok (.invokevirtual 79, 3) := by decide +kernel
theorem dc_H_aliveCount_18 : decode cb_H_aliveCount 18 = .ok (.ifCond .eq 6, 3) := by decide +kernel
theorem dc_H_aliveCount_21 : decode cb_H_aliveCount 21 = .ok (.iinc 1 1, 3) := by decide +kernel
theorem dc_H_aliveCount_24 : decode cb_H_aliveCount 24 = .ok (.iinc 2 1, 3) := by decide +kernel
theorem dc_H_aliveCount_27 : decode cb_H_aliveCount 27 = .ok (.goto (-23), 3) := by decide +kernel
theorem dc_H_aliveCount_30 : decode cb_H_aliveCount 30 = .ok (.iload_n 1, 1) := by decide +kernel
theorem dc_H_aliveCount_31 : decode cb_H_aliveCount 31 = .ok (.ireturn, 1) := by decide +kernel
theorem dc_H_readyCount_0 : decode cb_H_readyCount 0 = .ok (.iconst 0, 1) := by decide +kernel
theorem dc_H_readyCount_1 : decode cb_H_readyCount 1 = .ok (.istore_n 1, 1) := by decide +kernel
theorem dc_H_readyCount_2 : decode cb_H_readyCount 2 = .ok (.iconst 0, 1) := by decide +kernel
theorem dc_H_readyCount_3 : decode cb_H_readyCount 3 = .ok (.istore_n 2, 1) := by decide +kernel
theorem dc_H_readyCount_4 : decode cb_H_readyCount 4 = .ok (.iload_n 2, 1) := by decide +kernel
theorem dc_H_readyCount_5 : decode cb_H_readyCount 5 = .ok (.iconst 5, 1) := by decide +kernel
theorem dc_H_readyCount_6 : decode cb_H_readyCount 6 = .ok (.if_icmp .ge 25, 3) := by decide +kernel
theorem dc_H_readyCount_9 : decode cb_H_readyCount 9 = .ok (.aload_n 0, 1) := by decide +kernel
theorem dc_H_readyCount_10 : decode cb_H_readyCount 10 = .ok (.getfield 11, 3) := by decide +kernel
theorem dc_H_readyCount_13 : decode cb_H_readyCount 13 = .ok (.iload_n 2, 1) := by decide +kernel
theorem dc_H_readyCount_14 : decode cb_H_readyCount 14 = .ok (.aaload, 1) := by decide +kernel
theorem dc_H_readyCount_15 : decode cb_H_readyCount 15 = .ok (.getfield 106, 3) := by decide +kernel
theorem dc_H_readyCount_18 : decode cb_H_readyCount 18 = .ok (.iconst 1, 1) := by decide +kernel
theorem dc_H_readyCount_19 : decode cb_H_readyCount 19 = .ok (.if_icmp .ne 6, 3) := by decide +kernel
theorem dc_H_readyCount_22 : decode cb_H_readyCount 22 = .ok (.iinc 1 1, 3) := by decide +kernel
theorem dc_H_readyCount_25 : decode cb_H_readyCount 25 = .ok (.iinc 2 1, 3) := by decide +kernel
theorem dc_H_readyCount_28 : decode cb_H_readyCount 28 = .ok (.goto (-24), 3) := by decide +kernel
theorem dc_H_readyCount_31 : decode cb_H_readyCount 31 = .ok (.iload_n 1, 1) := by decide +kernel
theorem dc_H_readyCount_32 : decode cb_H_readyCount 32 = .ok (.ireturn, 1) := by decide +kernel
theorem dc_H_read_0 : decode cb_H_read 0 = .ok (.aload_n 1, 1) := by decide +kernel
theorem dc_H_read_1 : decode cb_H_read 1 = .ok (.getfield 115, 3) := by decide +kernel
theorem dc_H_read_4 : decode cb_H_read 4 = .ok (.iload_n 2, 1) := by decide +kernel
theorem dc_H_read_5 : decode cb_H_read 5 = .ok (.invokevirtual 251, 3) := by decide +kernel
theorem dc_H_read_8 : decode cb_H_read 8 = .ok (.istore_n 3, 1) := by decide +kernel
theorem dc_H_read_9 : decode cb_H_read 9 = .ok (.iload_n 3, 1) := by decide +kernel
theorem dc_H_read_10 : decode cb_H_read 10 = .ok (.iconst (-1), 1) := by decide +kernel
theorem dc_H_read_11 : decode cb_H_read 11 = .ok (.if_icmp .ne 12, 3) := by decide +kernel
theorem dc_H_read_14 : decode cb_H_read 14 = .ok (.aload_n 0, 1) := by decide +kernel
theorem dc_H_read_15 : decode cb_H_read 15 = .ok (.getfield 32, 3) := by decide +kernel
theorem dc_H_read_18 : decode cb_H_read 18 = .ok (.iload_n 2, 1) := by decide +kernel
theorem dc_H_read_19 : decode cb_H_read 19 = .ok (.iaload, 1) := by decide +kernel
theorem dc_H_read_20 : decode cb_H_read 20 = .ok (.goto 12, 3) := by decide +kernel
theorem dc_H_read_23 : decode cb_H_read 23 = .ok (.aload_n 1, 1) := by decide +kernel
theorem dc_H_read_24 : decode cb_H_read 24 = .ok (.getfield 115, 3) := by decide +kernel
theorem dc_H_read_27 : decode cb_H_read 27 = .ok (.getfield 255, 3) := by decide +kernel
theorem dc_H_read_30 : decode cb_H_read 30 = .ok (.iload_n 3, 1) := by decide +kernel
theorem dc_H_read_31 : decode cb_H_read 31 = .ok (.iaload, 1) := by decide +kernel
theorem dc_H_read_32 : decode cb_H_read 32 = .ok (.ireturn, 1) := by decide +kernel
theorem dc_H_add_0 : decode cb_H_add 0 = .ok (.iload_n 1, 1) := by decide +kernel
theorem dc_H_add_1 : decode cb_H_add 1 = .ok (.iconst 5, 1) := by decide +kernel
theorem dc_H_add_2 : decode cb_H_add 2 = .ok (.invokestatic 46, 3) := by decide +kernel
theorem dc_H_add_5 : decode cb_H_add 5 = .ok (.iload_n 2, 1) := by decide +kernel
theorem dc_H_add_6 : decode cb_H_add 6 = .ok (.getstatic 50, 3) := by decide +kernel
theorem dc_H_add_9 : decode cb_H_add 9 = .ok (.arraylength, 1) := by decide +kernel
theorem dc_H_add_10 : decode cb_H_add 10 = .ok (.invokestatic 46, 3) := by decide +kernel
theorem dc_H_add_13 : decode cb_H_add 13 = .ok (.iload_n 3, 1) := by decide +kernel
theorem dc_H_add_14 : decode cb_H_add 14 = .ok (.getstatic 50, 3) := by decide +kernel
theorem dc_H_add_17 : decode cb_H_add 17 = .ok (.iload_n 2, 1) := by decide +kernel
theorem dc_H_add_18 : decode cb_H_add 18 = .ok (.iaload, 1) := by decide +kernel
theorem dc_H_add_19 : decode cb_H_add 19 = .ok (.invokestatic 53, 3) := by decide +kernel
theorem dc_H_add_22 : decode cb_H_add 22 = .ok (.iload 4, 2) := by decide +kernel
theorem dc_H_add_24 : decode cb_H_add 24 = .ok (.getstatic 56, 3) := by decide +kernel
theorem dc_H_add_27 : decode cb_H_add 27 = .ok (.iload_n 2, 1) := by decide +kernel
theorem dc_H_add_28 : decode cb_H_add 28 = .ok (.iaload, 1) := by decide +kernel
theorem dc_H_add_29 : decode cb_H_add 29 = .ok (.invokestatic 53, 3) := by decide +kernel
theorem dc_H_add_32 : decode cb_H_add 32 = .ok (.aload_n 0, 1) := by decide +kernel
theorem dc_H_add_33 : decode cb_H_add 33 = .ok (.getfield 11, 3) := by decide +kernel
theorem dc_H_add_36 : decode cb_H_add 36 = .ok (.iload_n 1, 1) := by decide +kernel
theorem dc_H_add_37 : decode cb_H_add 37 = .ok (.aaload, 1) := by decide +kernel
theorem dc_H_add_38 : decode cb_H_add 38 = .ok (.invokestatic 59, 3) := by decide +kernel
theorem dc_H_add_41 : decode cb_H_add 41 = .ok (.aload_n 0, 1) := by decide +kernel
theorem dc_H_add_42 : decode cb_H_add 42 = .ok (.getfield 11, 3) := by decide +kernel
theorem dc_H_add_45 : decode cb_H_add 45 = .ok (.iload_n 1, 1) := by decide +kernel
theorem dc_H_add_46 : decode cb_H_add 46 = .ok (.aaload, 1) := by decide +kernel
theorem dc_H_add_47 : decode cb_H_add 47 = .ok (.getfield 63, 3) := by decide +kernel
theorem dc_H_add_50 : decode cb_H_add 50 = .ok (.astore 5, 2) := by decide +kernel
theorem dc_H_add_52 : decode cb_H_add 52 = .ok (.aload 5, 2) := by decide +kernel
theorem dc_H_add_54 : decode cb_H_add 54 = .ok (.getfield 67, 3) := by decide +kernel
theorem dc_H_add_57 : decode cb_H_add 57 = .ok (.bipush 24, 2) := by decide +kernel
theorem dc_H_add_59 : decode cb_H_add 59 = .ok (.if_icmp .lt 11, 3) := by decide +kernel
theorem dc_H_add_62 : decode cb_H_add 62 = .ok (.new 72, 3) := by decide +kernel
theorem dc_H_add_65 : decode cb_H_add 65 = .ok (.dup, 1) := by decide +kernel
theorem dc_H_add_66 : decode cb_H_add 66 = .ok (.invokespecial 74, 3) := by decide +kernel
theorem dc_H_add_69 : decode cb_H_add 69 = .ok (.athrow, 1) := by decide +kernel
theorem dc_H_add_70 : decode cb_H_add 70 = .ok (.aload 5, 2) := by decide +kernel
theorem dc_H_add_72 : decode cb_H_add 72 = .ok (.iload_n 2, 1) := by decide +kernel
theorem dc_H_add_73 : decode cb_H_add 73 = .ok (.iload_n 3, 1) := by decide +kernel
theorem dc_H_add_74 : decode cb_H_add 74 = .ok (.iload 4, 2) := by decide +kernel
theorem dc_H_add_76 : decode cb_H_add 76 = .ok (.invokevirtual 75, 3) := by decide +kernel
theorem dc_H_add_79 : decode cb_H_add 79 = .ok (.aload 5, 2) := by decide +kernel
theorem dc_H_add_81 : decode cb_H_add 81 = .ok (.getfield 67, 3) := by decide +kernel
theorem dc_H_add_84 : decode cb_H_add 84 = .ok (.ireturn, 1) := by decide +kernel
theorem dc_H_clear_0 : decode cb_H_clear 0 = .ok (.iload_n 1, 1) := by decide +kernel
theorem dc_H_clear_1 : decode cb_H_clear 1 = .ok (.iconst 5, 1) := by decide +kernel
theorem dc_H_clear_2 : decode cb_H_clear 2 = .ok (.invokestatic 46, 3) := by decide +kernel
theorem dc_H_clear_5 : decode cb_H_clear 5 = .ok (.aload_n 0, 1) := by decide +kernel
theorem dc_H_clear_6 : decode cb_H_clear 6 = .ok (.getfield 11, 3) := by decide +kernel
theorem dc_H_clear_9 : decode cb_H_clear 9 = .ok (.iload_n 1, 1) := by decide +kernel
theorem dc_H_clear_10 : decode cb_H_clear 10 = .ok (.aaload, 1) := by decide +kernel
theorem dc_H_clear_11 : decode cb_H_clear 11 = .ok (.invokestatic 59, 3) := by decide +kernel
theorem dc_H_clear_14 : decode cb_H_clear 14 = .ok (.aload_n 0, 1) := by decide +kernel
theorem dc_H_clear_15 : decode cb_H_clear 15 = .ok (.getfield 11, 3) := by decide +kernel
theorem dc_H_clear_18 : decode cb_H_clear 18 = .ok (.iload_n 1, 1) := by decide +kernel
theorem dc_H_clear_19 : decode cb_H_clear 19 = .ok (.aaload, 1) := by decide +kernel
theorem dc_H_clear_20 : decode cb_H_clear 20 = .ok (.getfield 63, 3) := by decide +kernel
theorem dc_H_clear_23 : decode cb_H_clear 23 = .ok (.getfield 67, 3) := by decide +kernel
theorem dc_H_clear_26 : decode cb_H_clear 26 = .ok (.istore_n 2, 1) := by decide +kernel
theorem dc_H_clear_27 : decode cb_H_clear 27 = .ok (.aload_n 0, 1) := by decide +kernel
theorem dc_H_clear_28 : decode cb_H_clear 28 = .ok (.getfield 11, 3) := by decide +kernel
theorem dc_H_clear_31 : decode cb_H_clear 31 = .ok (.iload_n 1, 1) := by decide +kernel
theorem dc_H_clear_32 : decode cb_H_clear 32 = .ok (.aaload, 1) := by decide +kernel
theorem dc_H_clear_33 : decode cb_H_clear 33 = .ok (.getfield 63, 3) := by decide +kernel
theorem dc_H_clear_36 : decode cb_H_clear 36 = .ok (.iconst 0, 1) := by decide +kernel
theorem dc_H_clear_37 : decode cb_H_clear 37 = .ok (.putfield 67, 3) := by decide +kernel
theorem dc_H_clear_40 : decode cb_H_clear 40 = .ok (.iload_n 2, 1) := by decide +kernel
theorem dc_H_clear_41 : decode cb_H_clear 41 = .ok (.ireturn, 1) := by decide +kernel
theorem dc_H_start_0 : decode cb_H_start 0 = .ok (.iload_n 1, 1) := by decide +kernel
theorem dc_H_start_1 : decode cb_H_start 1 = .ok (.iconst 5, 1) := by decide +kernel
theorem dc_H_start_2 : decode cb_H_start 2 = .ok (.invokestatic 46, 3) := by decide +kernel
theorem dc_H_start_5 : decode cb_H_start 5 = .ok (.aload_n 0, 1) := by decide +kernel
theorem dc_H_start_6 : decode cb_H_start 6 = .ok (.getfield 11, 3) := by decide +kernel
theorem dc_H_start_9 : decode cb_H_start 9 = .ok (.iload_n 1, 1) := by decide +kernel
theorem dc_H_start_10 : decode cb_H_start 10 = .ok (.aaload, 1) := by decide +kernel
theorem dc_H_start_11 : decode cb_H_start 11 = .ok (.invokevirtual 79, 3) := by decide +kernel
theorem dc_H_start_14 : decode cb_H_start 14 = .ok (.ifCond .eq 5, 3) := by decide +kernel
theorem dc_H_start_17 : decode cb_H_start 17 = .ok (.iconst 0, 1) := by decide +kernel
theorem dc_H_start_18 : decode cb_H_start 18 = .ok (.ireturn, 1) := by decide +kernel
theorem dc_H_start_19 : decode cb_H_start 19 = .ok (.aload_n 0, 1) := by decide +kernel
theorem dc_H_start_20 : decode cb_H_start 20 = .ok (.getfield 11, 3) := by decide +kernel
theorem dc_H_start_23 : decode cb_H_start 23 = .ok (.iload_n 1, 1) := by decide +kernel
theorem dc_H_start_24 : decode cb_H_start 24 = .ok (.aaload, 1) := by decide +kernel
theorem dc_H_start_25 : decode cb_H_start 25 = .ok (.invokevirtual 83, 3) := by decide +kernel
theorem dc_H_start_28 : decode cb_H_start 28 = .ok (.iconst 1, 1) := by decide +kernel
theorem dc_H_start_29 : decode cb_H_start 29 = .ok (.ireturn, 1) := by decide +kernel
theorem dc_H_run_0 : decode cb_H_run 0 = .ok (.iload_n 1, 1) := by decide +kernel
theorem dc_H_run_1 : decode cb_H_run 1 = .ok (.iconst 1, 1) := by decide +kernel
theorem dc_H_run_2 : decode cb_H_run 2 = .ok (.bipush 40, 2) := by decide +kernel
theorem dc_H_run_4 : decode cb_H_run 4 = .ok (.invokestatic 86, 3) := by decide +kernel
theorem dc_H_run_7 : decode cb_H_run 7 = .ok (.aload_n 0, 1) := by decide +kernel
theorem dc_H_run_8 : decode cb_H_run 8 = .ok (.getfield 89, 3) := by decide +kernel
theorem dc_H_run_11 : decode cb_H_run 11 = .ok (.istore_n 2, 1) := by decide +kernel
theorem dc_H_run_12 : decode cb_H_run 12 = .ok (.iconst 0, 1) := by decide +kernel
theorem dc_H_run_13 : decode cb_H_run 13 = .ok (.istore_n 3, 1) := by decide +kernel
theorem dc_H_run_14 : decode cb_H_run 14 = .ok (.iload_n 3, 1) := by decide +kernel
theorem dc_H_run_15 : decode cb_H_run 15 = .ok (.iload_n 1, 1) := by decide +kernel
theorem dc_H_run_16 : decode cb_H_run 16 = .ok (.if_icmp .ge 35, 3) := by decide +kernel
theorem dc_H_run_19 : decode cb_H_run 19 = .ok (.aload_n 0, 1) := by decide +kernel
theorem dc_H_run_20 : decode cb_H_run 20 = .ok (.invokevirtual 92, 3) := by decide +kernel
theorem dc_H_run_23 : decode cb_H_run 23 = .ok (.istore 4, 2) := by decide +kernel
theorem dc_H_run_25 : decode cb_H_run 25 = .ok (.iload 4, 2) := by decide +kernel
theorem dc_H_run_27 : decode cb_H_run 27 = .ok (.iconst (-1), 1) := by decide +kernel
theorem dc_H_run_28 : decode cb_H_run 28 = .ok (.if_icmp .ne 6, 3) := by decide +kernel
theorem dc_H_run_31 : decode cb_H_run 31 = .ok (.goto 20, 3) := by decide +kernel
theorem dc_H_run_34 : decode cb_H_run 34 = .ok (.aload_n 0, 1) := by decide +kernel
theorem dc_H_run_35 : decode cb_H_run 35 = .ok (.aload_n 0, 1) := by decide +kernel
theorem dc_H_run_36 : decode cb_H_run 36 = .ok (.getfield 11, 3) := by decide +kernel
theorem dc_H_run_39 : decode cb_H_run 39 = .ok (.iload 4, 2) := by decide +kernel
theorem dc_H_run_41 : decode cb_H_run 41 = .ok (.aaload, 1) := by decide +kernel
theorem dc_H_run_42 : decode cb_H_run 42 = .ok (.invokevirtual 96, 3) := by decide +kernel
theorem dc_H_run_45 : decode cb_H_run 45 = .ok (.iinc 3 1, 3) := by decide +kernel
theorem dc_H_run_48 : decode cb_H_run 48 = .ok (.goto (-34), 3) := by decide +kernel
theorem dc_H_run_51 : decode cb_H_run 51 = .ok (.aload_n 0, 1) := by decide +kernel
theorem dc_H_run_52 : decode cb_H_run 52 = .ok (.getfield 89, 3) := by decide +kernel
theorem dc_H_run_55 : decode cb_H_run 55 = .ok (.iload_n 2, 1) := by decide +kernel
theorem dc_H_run_56 : decode cb_H_run 56 = .ok (.isub, 1) := by decide +kernel
theorem dc_H_run_57 : decode cb_H_run 57 = .ok (.ireturn, 1) := by decide +kernel
theorem dc_H_interrupt_0 : decode cb_H_interrupt 0 = .ok (.iload_n 1, 1) := by decide +kernel
theorem dc_H_interrupt_1 : decode cb_H_interrupt 1 = .ok (.iconst 5, 1) := by decide +kernel
theorem dc_H_interrupt_2 : decode cb_H_interrupt 2 = .ok (.invokestatic 46, 3) := by decide +kernel
theorem dc_H_interrupt_5 : decode cb_H_interrupt 5 = .ok (.aload_n 0, 1) := by decide +kernel
theorem dc_H_interrupt_6 : decode cb_H_interrupt 6 = .ok (.getfield 11, 3) := by decide +kernel
theorem dc_H_interrupt_9 : decode cb_H_interrupt 9 = .ok (.iload_n 1, 1) := by decide +kernel
theorem dc_H_interrupt_10 : decode cb_H_interrupt 10 = .ok (.aaload, 1) := by decide +kernel
theorem dc_H_interrupt_11 : decode cb_H_interrupt 11 = .ok (.invokevirtual 79, 3) := by decide +kernel
theorem dc_H_interrupt_14 : decode cb_H_interrupt 14 = .ok (.ifCond .ne 5, 3) := by decide +kernel
theorem dc_H_interrupt_17 : decode cb_H_interrupt 17 = .ok (.iconst 0, 1) := by decide +kernel
theorem dc_H_interrupt_18 : decode cb_H_interrupt 18 = .ok (.ireturn, 1) := by decide +kernel
theorem dc_H_interrupt_19 : decode cb_H_interrupt 19 = .ok (.aload_n 0, 1) := by decide +kernel
theorem dc_H_interrupt_20 : decode cb_H_interrupt 20 = .ok (.aload_n 0, 1) := by decide +kernel
theorem dc_H_interrupt_21 : decode cb_H_interrupt 21 = .ok (.getfield 11, 3) := by decide +kernel
theorem dc_H_interrupt_24 : decode cb_H_interrupt 24 = .ok (.iload_n 1, 1) := by decide +kernel
theorem dc_H_interrupt_25 : decode cb_H_interrupt 25 = .ok (.aaload, 1) := by decide +kernel
theorem dc_H_interrupt_26 : decode cb_H_interrupt 26 = .ok (.invokevirtual 99, 3) := by decide +kernel
theorem dc_H_interrupt_29 : decode cb_H_interrupt 29 = .ok (.iconst 1, 1) := by decide +kernel
theorem dc_H_interrupt_30 : decode cb_H_interrupt 30 = .ok (.ireturn, 1) := by decide +kernel
theorem dc_H_slice_0 : decode cb_H_slice 0 = .ok (.iload_n 1, 1) := by decide +kernel
theorem dc_H_slice_1 : decode cb_H_slice 1 = .ok (.iconst 1, 1) := by decide +kernel
theorem dc_H_slice_2 : decode cb_H_slice 2 = .ok (.bipush 20, 2) := by decide +kernel
theorem dc_H_slice_4 : decode cb_H_slice 4 = .ok (.invokestatic 86, 3) := by decide +kernel
theorem dc_H_slice_7 : decode cb_H_slice 7 = .ok (.aload_n 0, 1) := by decide +kernel
theorem dc_H_slice_8 : decode cb_H_slice 8 = .ok (.getfield 39, 3) := by decide +kernel
theorem dc_H_slice_11 : decode cb_H_slice 11 = .ok (.istore_n 2, 1) := by decide +kernel
theorem dc_H_slice_12 : decode cb_H_slice 12 = .ok (.aload_n 0, 1) := by decide +kernel
theorem dc_H_slice_13 : decode cb_H_slice 13 = .ok (.iload_n 1, 1) := by decide +kernel
theorem dc_H_slice_14 : decode cb_H_slice 14 = .ok (.putfield 39, 3) := by decide +kernel
theorem dc_H_slice_17 : decode cb_H_slice 17 = .ok (.iload_n 2, 1) := by decide +kernel
theorem dc_H_slice_18 : decode cb_H_slice 18 = .ok (.ireturn, 1) := by decide +kernel
theorem dc_H_global_0 : decode cb_H_global 0 = .ok (.iload_n 1, 1) := by decide +kernel
theorem dc_H_global_1 : decode cb_H_global 1 = .ok (.iconst 4, 1) := by decide +kernel
theorem dc_H_global_2 : decode cb_H_global 2 = .ok (.invokestatic 46, 3) := by decide +kernel
theorem dc_H_global_5 : decode cb_H_global 5 = .ok (.aload_n 0, 1) := by decide +kernel
theorem dc_H_global_6 : decode cb_H_global 6 = .ok (.getfield 32, 3) := by decide +kernel
theorem dc_H_global_9 : decode cb_H_global 9 = .ok (.iload_n 1, 1) := by decide +kernel
theorem dc_H_global_10 : decode cb_H_global 10 = .ok (.iaload, 1) := by decide +kernel
theorem dc_H_global_11 : decode cb_H_global 11 = .ok (.istore_n 3, 1) := by decide +kernel
theorem dc_H_global_12 : decode cb_H_global 12 = .ok (.aload_n 0, 1) := by decide +kernel
theorem dc_H_global_13 : decode cb_H_global 13 = .ok (.getfield 32, 3) := by decide +kernel
theorem dc_H_global_16 : decode cb_H_global 16 = .ok (.iload_n 1, 1) := by decide +kernel
theorem dc_H_global_17 : decode cb_H_global 17 = .ok (.iload_n 2, 1) := by decide +kernel
theorem dc_H_global_18 : decode cb_H_global 18 = .ok (.iastore, 1) := by decide +kernel
theorem dc_H_global_19 : decode cb_H_global 19 = .ok (.iload_n 3, 1) := by decide +kernel
theorem dc_H_global_20 : decode cb_H_global 20 = .ok (.ireturn, 1) := by decide +kernel
theorem dc_H_special_0 : decode cb_H_special 0 = .ok (.iload_n 1, 1) := by decide +kernel
theorem dc_H_special_1 : decode cb_H_special 1 = .ok (.iconst 5, 1) := by decide +kernel
theorem dc_H_special_2 : decode cb_H_special 2 = .ok (.invokestatic 46, 3) := by decide +kernel
theorem dc_H_special_5 : decode cb_H_special 5 = .ok (.iload_n 2, 1) := by decide +kernel
theorem dc_H_special_6 : decode cb_H_special 6 = .ok (.iconst 4, 1) := by decide +kernel
theorem dc_H_special_7 : decode cb_H_special 7 = .ok (.invokestatic 46, 3) := by decide +kernel
theorem dc_H_special_10 : decode cb_H_special 10 = .ok (.aload_n 0, 1) := by decide +kernel
theorem dc_H_special_11 : decode cb_H_special 11 = .ok (.aload_n 0, 1) := by decide +kernel
theorem dc_H_special_12 : decode cb_H_special 12 = .ok (.getfield 11, 3) := by decide +kernel
theorem dc_H_special_15 : decode cb_H_special 15 = .ok (.iload_n 1, 1) := by decide +kernel
theorem dc_H_special_16 : decode cb_H_special 16 = .ok (.aaload, 1) := by decide +kernel
theorem dc_H_special_17 : decode cb_H_special 17 = .ok (.iload_n 2, 1) := by decide +kernel
theorem dc_H_special_18 : decode cb_H_special 18 = .ok (.invokevirtual 102, 3) := by decide +kernel
theorem dc_H_special_21 : decode cb_H_special 21 = .ok (.ireturn, 1) := by decide +kernel
theorem dc_H_look_0 : decode cb_H_look 0 = .ok (.iload_n 1, 1) := by decide +kernel
theorem dc_H_look_1 : decode cb_H_look 1 = .ok (.iconst 5, 1) := by decide +kernel
theorem dc_H_look_2 : decode cb_H_look 2 = .ok (.invokestatic 46, 3) := by decide +kernel
theorem dc_H_look_5 : decode cb_H_look 5 = .ok (.aload_n 0, 1) := by decide +kernel
theorem dc_H_look_6 : decode cb_H_look 6 = .ok (.getfield 11, 3) := by decide +kernel
theorem dc_H_look_9 : decode cb_H_look 9 = .ok (.iload_n 1, 1) := by decide +kernel
theorem dc_H_look_10 : decode cb_H_look 10 = .ok (.aaload, 1) := by decide +kernel
theorem dc_H_look_11 : decode cb_H_look 11 = .ok (.astore_n 3, 1) := by decide +kernel
theorem dc_H_look_12 : decode cb_H_look 12 = .ok (.iload_n 2, 1) := by decide +kernel
theorem dc_H_look_13 : decode cb_H_look 13 = .ok (.tableswitch 122 0 9 #[55, 60, 65, 70, 78, 86, 99, 104, 109, 114], 55) := by decide +kernel
theorem dc_H_look_68 : decode cb_H_look 68 = .ok (.aload_n 3, 1) := by decide +kernel
theorem dc_H_look_69 : decode cb_H_look 69 = .ok (.getfield 106, 3) := by decide +kernel
theorem dc_H_look_72 : decode cb_H_look 72 = .ok (.ireturn, 1) := by decide +kernel
theorem dc_H_look_73 : decode cb_H_look 73 = .ok (.aload_n 3, 1) := by decide +kernel
theorem dc_H_look_74 : decode cb_H_look 74 = .ok (.getfield 109, 3) := by decide +kernel
theorem dc_H_look_77 : decode cb_H_look 77 = .ok (.ireturn, 1) := by decide +kernel
theorem dc_H_look_78 : decode cb_H_look 78 = .ok (.aload_n 3, 1) := by decide +kernel
theorem dc_H_look_79 : decode cb_H_look 79 = .ok (.getfield 112, 3) := by decide +kernel
theorem dc_H_look_82 : decode cb_H_look 82 = .ok (.ireturn, 1) := by decide +kernel
theorem dc_H_look_83 : decode cb_H_look 83 = .ok (.aload_n 3, 1) := by decide +kernel
theorem dc_H_look_84 : decode cb_H_look 84 = .ok (.getfield 115, 3) := by decide +kernel
theorem dc_H_look_87 : decode cb_H_look 87 = .ok (.getfield 119, 3) := by decide +kernel
theorem dc_H_look_90 : decode cb_H_look 90 = .ok (.ireturn, 1) := by decide +kernel
theorem dc_H_look_91 : decode cb_H_look 91 = .ok (.aload_n 3, 1) := by decide +kernel
theorem dc_H_look_92 : decode cb_H_look 92 = .ok (.getfield 122, 3) := by decide +kernel
theorem dc_H_look_95 : decode cb_H_look 95 = .ok (.getfield 119, 3) := by decide +kernel
theorem dc_H_look_98 : decode cb_H_look 98 = .ok (.ireturn, 1) := by decide +kernel
theorem dc_H_look_99 : decode cb_H_look 99 = .ok (.aload_n 3, 1) := by decide +kernel
theorem dc_H_look_100 : decode cb_H_look 100 = .ok (.getfield 125, 3) := by decide +kernel
theorem dc_H_look_103 : decode cb_H_look 103 = .ok (.ifCond .eq 7, 3) := by decide +kernel
theorem dc_H_look_106 : decode cb_H_look 106 = .ok (.iconst 1, 1) := by decide +kernel
theorem dc_H_look_107 : decode cb_H_look 107 = .ok (.goto 4, 3) := by decide +kernel
theorem dc_H_look_110 : decode cb_H_look 110 = .ok (.iconst 0, 1) := by decide +kernel
theorem dc_H_look_111 : decode cb_H_look 111 = .ok (.ireturn, 1) := by decide +kernel
theorem dc_H_look_112 : decode cb_H_look 112 = .ok (.aload_n 3, 1) := by decide +kernel
theorem dc_H_look_113 : decode cb_H_look 113 = .ok (.getfield 129, 3) := by decide +kernel
theorem dc_H_look_116 : decode cb_H_look 116 = .ok (.ireturn, 1) := by decide +kernel
theorem dc_H_look_117 : decode cb_H_look 117 = .ok (.aload_n 3, 1) := by decide +kernel
theorem dc_H_look_118 : decode cb_H_look 118 = .ok (.getfield 132, 3) := by decide +kernel
theorem dc_H_look_121 : decode cb_H_look 121 = .ok (.ireturn, 1) := by decide +kernel
theorem dc_H_look_122 : decode cb_H_look 122 = .ok (.aload_n 3, 1) := by decide +kernel
theorem dc_H_look_123 : decode cb_H_look 123 = .ok (.getfield 135, 3) := by decide +kernel
theorem dc_H_look_126 : decode cb_H_look 126 = .ok (.ireturn, 1) := by decide +kernel
theorem dc_H_look_127 : decode cb_H_look 127 = .ok (.aload_n 3, 1) := by decide +kernel
theorem dc_H_look_128 : decode cb_H_look 128 = .ok (.getfield 138, 3) := by decide +kernel
theorem dc_H_look_131 : decode cb_H_look 131 = .ok (.getfield 142, 3) := by decide +kernel
theorem dc_H_look_134 : decode cb_H_look 134 = .ok (.ireturn, 1) := by decide +kernel
theorem dc_H_look_135 : decode cb_H_look 135 = .ok (.new 143, 3) := by decide +kernel
theorem dc_H_look_138 : decode cb_H_look 138 = .ok (.dup, 1) := by decide +kernel
theorem dc_H_look_139 : decode cb_H_look 139 = .ok (.invokespecial 145, 3) := by decide +kernel
theorem dc_H_look_142 : decode cb_H_look 142 = .ok (.athrow, 1) := by decide +kernel
theorem dc_H_lock_0 : decode cb_H_lock 0 = .ok (.iload_n 1, 1) := by decide +kernel
theorem dc_H_lock_1 : decode cb_H_lock 1 = .ok (.iconst 3, 1) := by decide +kernel
theorem dc_H_lock_2 : decode cb_H_lock 2 = .ok (.invokestatic 46, 3) := by decide +kernel
theorem dc_H_lock_5 : decode cb_H_lock 5 = .ok (.iload_n 2, 1) := by decide +kernel
theorem dc_H_lock_6 : decode cb_H_lock 6 = .ok (.tableswitch 73 0 3 #[30, 40, 50, 63], 30) := by decide +kernel
theorem dc_H_lock_36 : decode cb_H_lock 36 = .ok (.aload_n 0, 1) := by decide +kernel
theorem dc_H_lock_37 : decode cb_H_lock 37 = .ok (.getfield 20, 3) := by decide +kernel
theorem dc_H_lock_40 : decode cb_H_lock 40 = .ok (.iload_n 1, 1) := by decide +kernel
theorem dc_H_lock_41 : decode cb_H_lock 41 = .ok (.aaload, 1) := by decide +kernel
theorem dc_H_lock_42 : decode cb_H_lock 42 = .ok (.getfield 146, 3) := by decide +kernel
theorem dc_H_lock_45 : decode cb_H_lock 45 = .ok (.ireturn, 1) := by decide +kernel
theorem dc_H_lock_46 : decode cb_H_lock 46 = .ok (.aload_n 0, 1) := by decide +kernel
theorem dc_H_lock_47 : decode cb_H_lock 47 = .ok (.getfield 20, 3) := by decide +kernel
theorem dc_H_lock_50 : decode cb_H_lock 50 = .ok (.iload_n 1, 1) := by decide +kernel
theorem dc_H_lock_51 : decode cb_H_lock 51 = .ok (.aaload, 1) := by decide +kernel
theorem dc_H_lock_52 : decode cb_H_lock 52 = .ok (.getfield 149, 3) := by decide +kernel
theorem dc_H_lock_55 : decode cb_H_lock 55 = .ok (.ireturn, 1) := by decide +kernel
theorem dc_H_lock_56 : decode cb_H_lock 56 = .ok (.aload_n 0, 1) := by decide +kernel
theorem dc_H_lock_57 : decode cb_H_lock 57 = .ok (.getfield 20, 3) := by decide +kernel
theorem dc_H_lock_60 : decode cb_H_lock 60 = .ok (.iload_n 1, 1) := by decide +kernel
theorem dc_H_lock_61 : decode cb_H_lock 61 = .ok (.aaload, 1) := by decide +kernel
theorem dc_H_lock_62 : decode cb_H_lock 62 = .ok (.getfield 152, 3) := by decide +kernel
theorem dc_H_lock_65 : decode cb_H_lock 65 = .ok (.getfield 142, 3) := by decide +kernel
theorem dc_H_lock_68 : decode cb_H_lock 68 = .ok (.ireturn, 1) := by decide +kernel
theorem dc_H_lock_69 : decode cb_H_lock 69 = .ok (.aload_n 0, 1) := by decide +kernel
theorem dc_H_lock_70 : decode cb_H_lock 70 = .ok (.getfield 27, 3) := by decide +kernel
theorem dc_H_lock_73 : decode cb_H_lock 73 = .ok (.iload_n 1, 1) := by decide +kernel
theorem dc_H_lock_74 : decode cb_H_lock 74 = .ok (.aaload, 1) := by decide +kernel
theorem dc_H_lock_75 : decode cb_H_lock 75 = .ok (.getfield 142, 3) := by decide +kernel
theorem dc_H_lock_78 : decode cb_H_lock 78 = .ok (.ireturn, 1) := by decide +kernel
theorem dc_H_lock_79 : decode cb_H_lock 79 = .ok (.new 143, 3) := by decide +kernel
theorem dc_H_lock_82 : decode cb_H_lock 82 = .ok (.dup, 1) := by decide +kernel
theorem dc_H_lock_83 : decode cb_H_lock 83 = .ok (.invokespecial 145, 3) := by decide +kernel
theorem dc_H_lock_86 : decode cb_H_lock 86 = .ok (.athrow, 1) := by decide +kernel
theorem dc_H_said_0 : decode cb_H_said 0 = .ok (.iload_n 1, 1) := by decide +kernel
theorem dc_H_said_1 : decode cb_H_said 1 = .ok (.ifCond .lt 17, 3) := by decide +kernel
theorem dc_H_said_4 : decode cb_H_said 4 = .ok (.iload_n 1, 1) := by decide +kernel
theorem dc_H_said_5 : decode cb_H_said 5 = .ok (.aload_n 0, 1) := by decide +kernel
theorem dc_H_said_6 : decode cb_H_said 6 = .ok (.getfield 155, 3) := by decide +kernel
theorem dc_H_said_9 : decode cb_H_said 9 = .ok (.if_icmp .ge 9, 3) := by decide +kernel
theorem dc_H_said_12 : decode cb_H_said 12 = .ok (.iload_n 1, 1) := by decide +kernel
theorem dc_H_said_13 : decode cb_H_said 13 = .ok (.bipush 40, 2) := by decide +kernel
theorem dc_H_said_15 : decode cb_H_said 15 = .ok (.if_icmp .lt 11, 3) := by decide +kernel
theorem dc_H_said_18 : decode cb_H_said 18 = .ok (.new 72, 3) := by decide +kernel
theorem dc_H_said_21 : decode cb_H_said 21 = .ok (.dup, 1) := by decide +kernel
theorem dc_H_said_22 : decode cb_H_said 22 = .ok (.invokespecial 74, 3) := by decide +kernel
theorem dc_H_said_25 : decode cb_H_said 25 = .ok (.athrow, 1) := by decide +kernel
theorem dc_H_said_26 : decode cb_H_said 26 = .ok (.aload_n 0, 1) := by decide +kernel
theorem dc_H_said_27 : decode cb_H_said 27 = .ok (.getfield 36, 3) := by decide +kernel
theorem dc_H_said_30 : decode cb_H_said 30 = .ok (.iload_n 1, 1) := by decide +kernel
theorem dc_H_said_31 : decode cb_H_said 31 = .ok (.iaload, 1) := by decide +kernel
theorem dc_H_said_32 : decode cb_H_said 32 = .ok (.ireturn, 1) := by decide +kernel
theorem dc_H_count_0 : decode cb_H_count 0 = .ok (.iload_n 1, 1) := by decide +kernel
theorem dc_H_count_1 : decode cb_H_count 1 = .ok (.tableswitch 87 0 7 #[47, 52, 57, 62, 67, 72, 77, 82], 47) := by decide +kernel
theorem dc_H_count_48 : decode cb_H_count 48 = .ok (.aload_n 0, 1) := by decide +kernel
theorem dc_H_count_49 : decode cb_H_count 49 = .ok (.getfield 155, 3) := by decide +kernel
theorem dc_H_count_52 : decode cb_H_count 52 = .ok (.ireturn, 1) := by decide +kernel
theorem dc_H_count_53 : decode cb_H_count 53 = .ok (.aload_n 0, 1) := by decide +kernel
theorem dc_H_count_54 : decode cb_H_count 54 = .ok (.getfield 89, 3) := by decide +kernel
theorem dc_H_count_57 : decode cb_H_count 57 = .ok (.ireturn, 1) := by decide +kernel
theorem dc_H_count_58 : decode cb_H_count 58 = .ok (.aload_n 0, 1) := by decide +kernel
theorem dc_H_count_59 : decode cb_H_count 59 = .ok (.getfield 158, 3) := by decide +kernel
theorem dc_H_count_62 : decode cb_H_count 62 = .ok (.ireturn, 1) := by decide +kernel
theorem dc_H_count_63 : decode cb_H_count 63 = .ok (.aload_n 0, 1) := by decide +kernel
theorem dc_H_count_64 : decode cb_H_count 64 = .ok (.invokevirtual 161, 3) := by decide +kernel
theorem dc_H_count_67 : decode cb_H_count 67 = .ok (.ireturn, 1) := by decide +kernel
theorem dc_H_count_68 : decode cb_H_count 68 = .ok (.aload_n 0, 1) := by decide +kernel
theorem dc_H_count_69 : decode cb_H_count 69 = .ok (.invokevirtual 164, 3) := by decide +kernel
theorem dc_H_count_72 : decode cb_H_count 72 = .ok (.ireturn, 1) := by decide +kernel
theorem dc_H_count_73 : decode cb_H_count 73 = .ok (.aload_n 0, 1) := by decide +kernel
theorem dc_H_count_74 : decode cb_H_count 74 = .ok (.getfield 167, 3) := by decide +kernel
theorem dc_H_count_77 : decode cb_H_count 77 = .ok (.ireturn, 1) := by decide +kernel
theorem dc_H_count_78 : decode cb_H_count 78 = .ok (.aload_n 0, 1) := by decide +kernel
theorem dc_H_count_79 : decode cb_H_count 79 = .ok (.getfield 43, 3) := by decide +kernel
theorem dc_H_count_82 : decode cb_H_count 82 = .ok (.ireturn, 1) := by decide +kernel
theorem dc_H_count_83 : decode cb_H_count 83 = .ok (.aload_n 0, 1) := by decide +kernel
theorem dc_H_count_84 : decode cb_H_count 84 = .ok (.getfield 170, 3) := by decide +kernel
theorem dc_H_count_87 : decode cb_H_count 87 = .ok (.ireturn, 1) := by decide +kernel
theorem dc_H_count_88 : decode cb_H_count 88 = .ok (.new 143, 3) := by decide +kernel
theorem dc_H_count_91 : decode cb_H_count 91 = .ok (.dup, 1) := by decide +kernel
theorem dc_H_count_92 : decode cb_H_count 92 = .ok (.invokespecial 145, 3) := by decide +kernel
theorem dc_H_count_95 : decode cb_H_count 95 = .ok (.athrow, 1) := by decide +kernel
theorem dc_O_is_0 : decode cb_O_is 0 = .ok (.iload_n 0, 1) := by decide +kernel
theorem dc_O_is_1 : decode cb_O_is 1 = .ok (.iload_n 1, 1) := by decide +kernel
theorem dc_O_is_2 : decode cb_O_is 2 = .ok (.if_icmp .lt 12, 3) := by decide +kernel
theorem dc_O_is_5 : decode cb_O_is 5 = .ok (.iload_n 0, 1) := by decide +kernel
theorem dc_O_is_6 : decode cb_O_is 6 = .ok (.iload_n 2, 1) := by decide +kernel
theorem dc_O_is_7 : decode cb_O_is 7 = .ok (.if_icmp .gt 7, 3) := by decide +kernel
theorem dc_O_is_10 : decode cb_O_is 10 = .ok (.iconst 1, 1) := by decide +kernel
theorem dc_O_is_11 : decode cb_O_is 11 = .ok (.goto 4, 3) := by decide +kernel
theorem dc_O_is_14 : decode cb_O_is 14 = .ok (.iconst 0, 1) := by decide +kernel
theorem dc_O_is_15 : decode cb_O_is 15 = .ok (.ireturn, 1) := by decide +kernel
theorem dc_O_fits_0 : decode cb_O_fits 0 = .ok (.iload_n 0, 1) := by decide +kernel
theorem dc_O_fits_1 : decode cb_O_fits 1 = .ok (.tableswitch 245 0 19 #[95, 95, 102, 95, 95, 126, 126, 133, 157, 126, 126, 181, 188, 181, 212, 95, 212, 220, 95, 95], 95) := by decide +kernel
theorem dc_O_fits_96 : decode cb_O_fits 96 = .ok (.iload_n 1, 1) := by decide +kernel
theorem dc_O_fits_97 : decode cb_O_fits 97 = .ok (.iconst 0, 1) := by decide +kernel
theorem dc_O_fits_98 : decode cb_O_fits 98 = .ok (.iconst 3, 1) := by decide +kernel
theorem dc_O_fits_99 : decode cb_O_fits 99 = .ok (.invokestatic 117, 3) := by decide +kernel
theorem dc_O_fits_102 : decode cb_O_fits 102 = .ok (.ireturn, 1) := by decide +kernel
theorem dc_O_fits_103 : decode cb_O_fits 103 = .ok (.iload_n 1, 1) := by decide +kernel
theorem dc_O_fits_104 : decode cb_O_fits 104 = .ok (.iconst 0, 1) := by decide +kernel
theorem dc_O_fits_105 : decode cb_O_fits 105 = .ok (.iconst 3, 1) := by decide +kernel
theorem dc_O_fits_106 : decode cb_O_fits 106 = .ok (.invokestatic 117, 3) := by decide +kernel
theorem dc_O_fits_109 : decode cb_O_fits 109 = .ok (.ifCond .eq 16, 3) := by decide +kernel
theorem dc_O_fits_112 : decode cb_O_fits 112 = .ok (.iload_n 2, 1) := by decide +kernel
theorem dc_O_fits_113 : decode cb_O_fits 113 = .ok (.iconst 0, 1) := by decide +kernel
theorem dc_O_fits_114 : decode cb_O_fits 114 = .ok (.iconst 3, 1) := by decide +kernel
theorem dc_O_fits_115 : decode cb_O_fits 115 = .ok (.invokestatic 117, 3) := by decide +kernel
theorem dc_O_fits_118 : decode cb_O_fits 118 = .ok (.ifCond .eq 7, 3) := by decide +kernel
theorem dc_O_fits_121 : decode cb_O_fits 121 = .ok (.iconst 1, 1) := by decide +kernel
theorem dc_O_fits_122 : decode cb_O_fits 122 = .ok (.goto 4, 3) := by decide +kernel
theorem dc_O_fits_125 : decode cb_O_fits 125 = .ok (.iconst 0, 1) := by decide +kernel
theorem dc_O_fits_126 : decode cb_O_fits 126 = .ok (.ireturn, 1) := by decide +kernel
theorem dc_O_fits_127 : decode cb_O_fits 127 = .ok (.iload_n 1, 1) := by decide +kernel
theorem dc_O_fits_128 : decode cb_O_fits 128 = .ok (.iconst 0, 1) := by decide +kernel
theorem dc_O_fits_129 : decode cb_O_fits 129 = .ok (.iconst 2, 1) := by decide +kernel
theorem dc_O_fits_130 : decode cb_O_fits 130 = .ok (.invokestatic 117, 3) := by decide +kernel
theorem dc_O_fits_133 : decode cb_O_fits 133 = .ok (.ireturn, 1) := by decide +kernel
theorem dc_O_fits_134 : decode cb_O_fits 134 = .ok (.iload_n 1, 1) := by decide +kernel
theorem dc_O_fits_135 : decode cb_O_fits 135 = .ok (.iconst 0, 1) := by decide +kernel
theorem dc_O_fits_136 : decode cb_O_fits 136 = .ok (.iconst 2, 1) := by decide +kernel
theorem dc_O_fits_137 : decode cb_O_fits 137 = .ok (.invokestatic 117, 3) := by decide +kernel
theorem dc_O_fits_140 : decode cb_O_fits 140 = .ok (.ifCond .eq 16, 3) := by decide +kernel
theorem dc_O_fits_143 : decode cb_O_fits 143 = .ok (.iload_n 2, 1) := by decide +kernel
theorem dc_O_fits_144 : decode cb_O_fits 144 = .ok (.iconst 0, 1) := by decide +kernel
theorem dc_O_fits_145 : decode cb_O_fits 145 = .ok (.iconst 3, 1) := by decide +kernel
theorem dc_O_fits_146 : decode cb_O_fits 146 = .ok (.invokestatic 117, 3) := by decide +kernel
theorem dc_O_fits_149 : decode cb_O_fits 149 = .ok (.ifCond .eq 7, 3) := by decide +kernel
theorem dc_O_fits_152 : decode cb_O_fits 152 = .ok (.iconst 1, 1) := by decide +kernel
theorem dc_O_fits_153 : decode cb_O_fits 153 = .ok (.goto 4, 3) := by decide +kernel
theorem dc_O_fits_156 : decode cb_O_fits 156 = .ok (.iconst 0, 1) := by decide +kernel
theorem dc_O_fits_157 : decode cb_O_fits 157 = .ok (.ireturn, 1) := by decide +kernel
theorem dc_O_fits_158 : decode cb_O_fits 158 = .ok (.iload_n 1, 1) := by decide +kernel
theorem dc_O_fits_159 : decode cb_O_fits 159 = .ok (.iconst 0, 1) := by decide +kernel
theorem dc_O_fits_160 : decode cb_O_fits 160 = .ok (.iconst 2, 1) := by decide +kernel
theorem dc_O_fits_161 : decode cb_O_fits 161 = .ok (.invokestatic 117, 3) := by decide +kernel
theorem dc_O_fits_164 : decode cb_O_fits 164 = .ok (.ifCond .eq 16, 3) := by decide +kernel
theorem dc_O_fits_167 : decode cb_O_fits 167 = .ok (.iload_n 2, 1) := by decide +kernel
theorem dc_O_fits_168 : decode cb_O_fits 168 = .ok (.iconst 0, 1) := by decide +kernel
theorem dc_O_fits_169 : decode cb_O_fits 169 = .ok (.iconst 2, 1) := by decide +kernel
theorem dc_O_fits_170 : decode cb_O_fits 170 = .ok (.invokestatic 117, 3) := by decide +kernel
theorem dc_O_fits_173 : decode cb_O_fits 173 = .ok (.ifCond .eq 7, 3) := by decide +kernel
theorem dc_O_fits_176 : decode cb_O_fits 176 = .ok (.iconst 1, 1) := by decide +kernel
theorem dc_O_fits_177 : decode cb_O_fits 177 = .ok (.goto 4, 3) := by decide +kernel
theorem dc_O_fits_180 : decode cb_O_fits 180 = .ok (.iconst 0, 1) := by decide +kernel
theorem dc_O_fits_181 : decode cb_O_fits 181 = .ok (.ireturn, 1) := by decide +kernel
theorem dc_O_fits_182 : decode cb_O_fits 182 = .ok (.iload_n 1, 1) := by decide +kernel
theorem dc_O_fits_183 : decode cb_O_fits 183 = .ok (.iconst 0, 1) := by decide +kernel
theorem dc_O_fits_184 : decode cb_O_fits 184 = .ok (.iconst 4, 1) := by decide +kernel
theorem dc_O_fits_185 : decode cb_O_fits 185 = .ok (.invokestatic 117, 3) := by decide +kernel
theorem dc_O_fits_188 : decode cb_O_fits 188 = .ok (.ireturn, 1) := by decide +kernel
theorem dc_O_fits_189 : decode cb_O_fits 189 = .ok (.iload_n 1, 1) := by decide +kernel
theorem dc_O_fits_190 : decode cb_O_fits 190 = .ok (.iconst 0, 1) := by decide +kernel
theorem dc_O_fits_191 : decode cb_O_fits 191 = .ok (.iconst 4, 1) := by decide +kernel
theorem dc_O_fits_192 : decode cb_O_fits 192 = .ok (.invokestatic 117, 3) := by decide +kernel
theorem dc_O_fits_195 : decode cb_O_fits 195 = .ok (.ifCond .eq 16, 3) := by decide +kernel
theorem dc_O_fits_198 : decode cb_O_fits 198 = .ok (.iload_n 2, 1) := by decide +kernel
theorem dc_O_fits_199 : decode cb_O_fits 199 = .ok (.iconst 0, 1) := by decide +kernel
theorem dc_O_fits_200 : decode cb_O_fits 200 = .ok (.iconst 3, 1) := by decide +kernel
theorem dc_O_fits_201 : decode cb_O_fits 201 = .ok (.invokestatic 117, 3) := by decide +kernel
theorem dc_O_fits_204 : decode cb_O_fits 204 = .ok (.ifCond .eq 7, 3) := by decide +kernel
theorem dc_O_fits_207 : decode cb_O_fits 207 = .ok (.iconst 1, 1) := by decide +kernel
theorem dc_O_fits_208 : decode cb_O_fits 208 = .ok (.goto 4, 3) := by decide +kernel
theorem dc_O_fits_211 : decode cb_O_fits 211 = .ok (.iconst 0, 1) := by decide +kernel
theorem dc_O_fits_212 : decode cb_O_fits 212 = .ok (.ireturn, 1) := by decide +kernel
theorem dc_O_fits_213 : decode cb_O_fits 213 = .ok (.iload_n 1, 1) := by decide +kernel
theorem dc_O_fits_214 : decode cb_O_fits 214 = .ok (.iconst 0, 1) := by decide +kernel
theorem dc_O_fits_215 : decode cb_O_fits 215 = .ok (.bipush 24, 2) := by decide +kernel
theorem dc_O_fits_217 : decode cb_O_fits 217 = .ok (.invokestatic 117, 3) := by decide +kernel
theorem dc_O_fits_220 : decode cb_O_fits 220 = .ok (.ireturn, 1) := by decide +kernel
theorem dc_O_fits_221 : decode cb_O_fits 221 = .ok (.iload_n 1, 1) := by decide +kernel
theorem dc_O_fits_222 : decode cb_O_fits 222 = .ok (.iconst 0, 1) := by decide +kernel
theorem dc_O_fits_223 : decode cb_O_fits 223 = .ok (.iconst 3, 1) := by decide +kernel
theorem dc_O_fits_224 : decode cb_O_fits 224 = .ok (.invokestatic 117, 3) := by decide +kernel
theorem dc_O_fits_227 : decode cb_O_fits 227 = .ok (.ifCond .eq 17, 3) := by decide +kernel
theorem dc_O_fits_230 : decode cb_O_fits 230 = .ok (.iload_n 2, 1) := by decide +kernel
theorem dc_O_fits_231 : decode cb_O_fits 231 = .ok (.iconst 0, 1) := by decide +kernel
theorem dc_O_fits_232 : decode cb_O_fits 232 = .ok (.bipush 24, 2) := by decide +kernel
theorem dc_O_fits_234 : decode cb_O_fits 234 = .ok (.invokestatic 117, 3) := by decide +kernel
theorem dc_O_fits_237 : decode cb_O_fits 237 = .ok (.ifCond .eq 7, 3) := by decide +kernel
theorem dc_O_fits_240 : decode cb_O_fits 240 = .ok (.iconst 1, 1) := by decide +kernel
theorem dc_O_fits_241 : decode cb_O_fits 241 = .ok (.goto 4, 3) := by decide +kernel
theorem dc_O_fits_244 : decode cb_O_fits 244 = .ok (.iconst 0, 1) := by decide +kernel
theorem dc_O_fits_245 : decode cb_O_fits 245 = .ok (.ireturn, 1) := by decide +kernel
theorem dc_O_fits_246 : decode cb_O_fits 246 = .ok (.iload_n 0, 1) := by decide +kernel
theorem dc_O_fits_247 : decode cb_O_fits 247 = .ok (.bipush 20, 2) := by decide +kernel
theorem dc_O_fits_249 : decode cb_O_fits 249 = .ok (.if_icmp .ne 7, 3) := by decide +kernel
theorem dc_O_fits_252 : decode cb_O_fits 252 = .ok (.iconst 1, 1) := by decide +kernel
theorem dc_O_fits_253 : decode cb_O_fits 253 = .ok (.goto 4, 3) := by decide +kernel
theorem dc_O_fits_256 : decode cb_O_fits 256 = .ok (.iconst 0, 1) := by decide +kernel
theorem dc_O_fits_257 : decode cb_O_fits 257 = .ok (.ireturn, 1) := by decide +kernel
theorem dc_O_refuse_0 : decode cb_O_refuse 0 = .ok (.aload_n 0, 1) := by decide +kernel
theorem dc_O_refuse_1 : decode cb_O_refuse 1 = .ok (.iload_n 1, 1) := by decide +kernel
theorem dc_O_refuse_2 : decode cb_O_refuse 2 = .ok (.putfield 114, 3) := by decide +kernel
theorem dc_O_refuse_5 : decode cb_O_refuse 5 = .ok (.iconst 0, 1) := by decide +kernel
theorem dc_O_refuse_6 : decode cb_O_refuse 6 = .ok (.ireturn, 1) := by decide +kernel
theorem dc_O_thrown_0 : decode cb_O_thrown 0 = .ok (.aload_n 0, 1) := by decide +kernel
theorem dc_O_thrown_1 : decode cb_O_thrown 1 = .ok (.getfield 114, 3) := by decide +kernel
theorem dc_O_thrown_4 : decode cb_O_thrown 4 = .ok (.ireturn, 1) := by decide +kernel
theorem dc_O_alive_0 : decode cb_O_alive 0 = .ok (.aload_n 0, 1) := by decide +kernel
theorem dc_O_alive_1 : decode cb_O_alive 1 = .ok (.getfield 43, 3) := by decide +kernel
theorem dc_O_alive_4 : decode cb_O_alive 4 = .ok (.iload_n 1, 1) := by decide +kernel
theorem dc_O_alive_5 : decode cb_O_alive 5 = .ok (.iaload, 1) := by decide +kernel
theorem dc_O_alive_6 : decode cb_O_alive 6 = .ok (.ifCond .eq 17, 3) := by decide +kernel
theorem dc_O_alive_9 : decode cb_O_alive 9 = .ok (.aload_n 0, 1) := by decide +kernel
theorem dc_O_alive_10 : decode cb_O_alive 10 = .ok (.getfield 43, 3) := by decide +kernel
theorem dc_O_alive_13 : decode cb_O_alive 13 = .ok (.iload_n 1, 1) := by decide +kernel
theorem dc_O_alive_14 : decode cb_O_alive 14 = .ok (.iaload, 1) := by decide +kernel
theorem dc_O_alive_15 : decode cb_O_alive 15 = .ok (.iconst 5, 1) := by decide +kernel
theorem dc_O_alive_16 : decode cb_O_alive 16 = .ok (.if_icmp .eq 7, 3) := by decide +kernel
theorem dc_O_alive_19 : decode cb_O_alive 19 = .ok (.iconst 1, 1) := by decide +kernel
theorem dc_O_alive_20 : decode cb_O_alive 20 = .ok (.goto 4, 3) := by decide +kernel
theorem dc_O_alive_23 : decode cb_O_alive 23 = .ok (.iconst 0, 1) := by decide +kernel
theorem dc_O_alive_24 : decode cb_O_alive 24 = .ok (.ireturn, 1) := by decide +kernel
theorem dc_O_bound_0 : decode cb_O_bound 0 = .ok (.aload_n 0, 1) := by decide +kernel
theorem dc_O_bound_1 : decode cb_O_bound 1 = .ok (.getfield 31, 3) := by decide +kernel
theorem dc_O_bound_4 : decode cb_O_bound 4 = .ok (.iload_n 1, 1) := by decide +kernel
theorem dc_O_bound_5 : decode cb_O_bound 5 = .ok (.iaload, 1) := by decide +kernel
theorem dc_O_bound_6 : decode cb_O_bound 6 = .ok (.iconst 1, 1) := by decide +kernel
theorem dc_O_bound_7 : decode cb_O_bound 7 = .ok (.isub, 1) := by decide +kernel
theorem dc_O_bound_8 : decode cb_O_bound 8 = .ok (.istore_n 3, 1) := by decide +kernel
theorem dc_O_bound_9 : decode cb_O_bound 9 = .ok (.iload_n 3, 1) := by decide +kernel
theorem dc_O_bound_10 : decode cb_O_bound 10 = .ok (.ifCond .lt 31, 3) := by decide +kernel
theorem dc_O_bound_13 : decode cb_O_bound 13 = .ok (.aload_n 0, 1) := by decide +kernel
theorem dc_O_bound_14 : decode cb_O_bound 14 = .ok (.getfield 25, 3) := by decide +kernel
theorem dc_O_bound_17 : decode cb_O_bound 17 = .ok (.bipush 12, 2) := by decide +kernel
theorem dc_O_bound_19 : decode cb_O_bound 19 = .ok (.iload_n 1, 1) := by decide +kernel
theorem dc_O_bound_20 : decode cb_O_bound 20 = .ok (.imul, 1) := by decide +kernel
theorem dc_O_bound_21 : decode cb_O_bound 21 = .ok (.iload_n 3, 1) := by decide +kernel
theorem dc_O_bound_22 : decode cb_O_bound 22 = .ok (.iadd, 1) := by decide +kernel
theorem dc_O_bound_23 : decode cb_O_bound 23 = .ok (.iaload, 1) := by decide +kernel
theorem dc_O_bound_24 : decode cb_O_bound 24 = .ok (.iload_n 2, 1) := by decide +kernel
theorem dc_O_bound_25 : decode cb_O_bound 25 = .ok (.if_icmp .ne 10, 3) := by decide +kernel
theorem dc_O_bound_28 : decode cb_O_bound 28 = .ok (.bipush 12, 2) := by decide +kernel
theorem dc_O_bound_30 : decode cb_O_bound 30 = .ok (.iload_n 1, 1) := by decide +kernel
theorem dc_O_bound_31 : decode cb_O_bound 31 = .ok (.imul, 1) := by decide +kernel
theorem dc_O_bound_32 : decode cb_O_bound 32 = .ok (.iload_n 3, 1) := by decide +kernel
theorem dc_O_bound_33 : decode cb_O_bound 33 = .ok (.iadd, 1) := by decide +kernel
theorem dc_O_bound_34 : decode cb_O_bound 34 = .ok (.ireturn, 1) := by decide +kernel
theorem dc_O_bound_35 : decode cb_O_bound 35 = .ok (.iinc 3 (-1), 3) := by decide +kernel
theorem dc_O_bound_38 : decode cb_O_bound 38 = .ok (.goto (-29), 3) := by decide +kernel
theorem dc_O_bound_41 : decode cb_O_bound 41 = .ok (.iconst (-1), 1) := by decide +kernel
theorem dc_O_bound_42 : decode cb_O_bound 42 = .ok (.ireturn, 1) := by decide +kernel
theorem dc_O_get_0 : decode cb_O_get 0 = .ok (.aload_n 0, 1) := by decide +kernel
theorem dc_O_get_1 : decode cb_O_get 1 = .ok (.iload_n 1, 1) := by decide +kernel
theorem dc_O_get_2 : decode cb_O_get 2 = .ok (.iload_n 2, 1) := by decide +kernel
theorem dc_O_get_3 : decode cb_O_get 3 = .ok (.invokevirtual 132, 3) := by decide +kernel
theorem dc_O_get_6 : decode cb_O_get 6 = .ok (.istore_n 3, 1) := by decide +kernel
theorem dc_O_get_7 : decode cb_O_get 7 = .ok (.iload_n 3, 1) := by decide +kernel
theorem dc_O_get_8 : decode cb_O_get 8 = .ok (.ifCond .ge 12, 3) := by decide +kernel
theorem dc_O_get_11 : decode cb_O_get 11 = .ok (.aload_n 0, 1) := by decide +kernel
theorem dc_O_get_12 : decode cb_O_get 12 = .ok (.getfield 22, 3) := by decide +kernel
theorem dc_O_get_15 : decode cb_O_get 15 = .ok (.iload_n 2, 1) := by decide +kernel
theorem dc_O_get_16 : decode cb_O_get 16 = .ok (.iaload, 1) := by decide +kernel
theorem dc_O_get_17 : decode cb_O_get 17 = .ok (.goto 9, 3) := by decide +kernel
theorem dc_O_get_20 : decode cb_O_get 20 = .ok (.aload_n 0, 1) := by decide +kernel
theorem dc_O_get_21 : decode cb_O_get 21 = .ok (.getfield 28, 3) := by decide +kernel
theorem dc_O_get_24 : decode cb_O_get 24 = .ok (.iload_n 3, 1) := by decide +kernel
theorem dc_O_get_25 : decode cb_O_get 25 = .ok (.iaload, 1) := by decide +kernel
theorem dc_O_get_26 : decode cb_O_get 26 = .ok (.ireturn, 1) := by decide +kernel
theorem dc_O_begin_0 : decode cb_O_begin 0 = .ok (.aload_n 0, 1) := by decide +kernel
theorem dc_O_begin_1 : decode cb_O_begin 1 = .ok (.iload_n 1, 1) := by decide +kernel
theorem dc_O_begin_2 : decode cb_O_begin 2 = .ok (.invokevirtual 128, 3) := by decide +kernel
theorem dc_O_begin_5 : decode cb_O_begin 5 = .ok (.ifCond .eq 5, 3) := by decide +kernel
theorem dc_O_begin_8 : decode cb_O_begin 8 = .ok (.iconst 0, 1) := by decide +kernel
theorem dc_O_begin_9 : decode cb_O_begin 9 = .ok (.ireturn, 1) := by decide +kernel
theorem dc_O_begin_10 : decode cb_O_begin 10 = .ok (.aload_n 0, 1) := by decide +kernel
theorem dc_O_begin_11 : decode cb_O_begin 11 = .ok (.getfield 43, 3) := by decide +kernel
theorem dc_O_begin_14 : decode cb_O_begin 14 = .ok (.iload_n 1, 1) := by decide +kernel
theorem dc_O_begin_15 : decode cb_O_begin 15 = .ok (.iconst 1, 1) := by decide +kernel
theorem dc_O_begin_16 : decode cb_O_begin 16 = .ok (.iastore, 1) := by decide +kernel
theorem dc_O_begin_17 : decode cb_O_begin 17 = .ok (.aload_n 0, 1) := by decide +kernel
theorem dc_O_begin_18 : decode cb_O_begin 18 = .ok (.getfield 46, 3) := by decide +kernel
theorem dc_O_begin_21 : decode cb_O_begin 21 = .ok (.iload_n 1, 1) := by decide +kernel
theorem dc_O_begin_22 : decode cb_O_begin 22 = .ok (.iconst 0, 1) := by decide +kernel
theorem dc_O_begin_23 : decode cb_O_begin 23 = .ok (.iastore, 1) := by decide +kernel
theorem dc_O_begin_24 : decode cb_O_begin 24 = .ok (.aload_n 0, 1) := by decide +kernel
theorem dc_O_begin_25 : decode cb_O_begin 25 = .ok (.getfield 31, 3) := by decide +kernel
theorem dc_O_begin_28 : decode cb_O_begin 28 = .ok (.iload_n 1, 1) := by decide +kernel
theorem dc_O_begin_29 : decode cb_O_begin 29 = .ok (.iconst 0, 1) := by decide +kernel
theorem dc_O_begin_30 : decode cb_O_begin 30 = .ok (.iastore, 1) := by decide +kernel
theorem dc_O_begin_31 : decode cb_O_begin 31 = .ok (.aload_n 0, 1) := by decide +kernel
theorem dc_O_begin_32 : decode cb_O_begin 32 = .ok (.getfield 40, 3) := by decide +kernel
theorem dc_O_begin_35 : decode cb_O_begin 35 = .ok (.iload_n 1, 1) := by decide +kernel
theorem dc_O_begin_36 : decode cb_O_begin 36 = .ok (.iconst 0, 1) := by decide +kernel
theorem dc_O_begin_37 : decode cb_O_begin 37 = .ok (.iastore, 1) := by decide +kernel
theorem dc_O_begin_38 : decode cb_O_begin 38 = .ok (.aload_n 0, 1) := by decide +kernel
theorem dc_O_begin_39 : decode cb_O_begin 39 = .ok (.getfield 52, 3) := by decide +kernel
theorem dc_O_begin_42 : decode cb_O_begin 42 = .ok (.iload_n 1, 1) := by decide +kernel
theorem dc_O_begin_43 : decode cb_O_begin 43 = .ok (.bipush 24, 2) := by decide +kernel
theorem dc_O_begin_45 : decode cb_O_begin 45 = .ok (.iastore, 1) := by decide +kernel
theorem dc_O_begin_46 : decode cb_O_begin 46 = .ok (.aload_n 0, 1) := by decide +kernel
theorem dc_O_begin_47 : decode cb_O_begin 47 = .ok (.getfield 73, 3) := by decide +kernel
theorem dc_O_begin_50 : decode cb_O_begin 50 = .ok (.iload_n 1, 1) := by decide +kernel
theorem dc_O_begin_51 : decode cb_O_begin 51 = .ok (.iconst 0, 1) := by decide +kernel
theorem dc_O_begin_52 : decode cb_O_begin 52 = .ok (.bastore, 1) := by decide +kernel
theorem dc_O_begin_53 : decode cb_O_begin 53 = .ok (.aload_n 0, 1) := by decide +kernel
theorem dc_O_begin_54 : decode cb_O_begin 54 = .ok (.getfield 77, 3) := by decide +kernel
theorem dc_O_begin_57 : decode cb_O_begin 57 = .ok (.iload_n 1, 1) := by decide +kernel
theorem dc_O_begin_58 : decode cb_O_begin 58 = .ok (.iconst 0, 1) := by decide +kernel
theorem dc_O_begin_59 : decode cb_O_begin 59 = .ok (.bastore, 1) := by decide +kernel
theorem dc_O_begin_60 : decode cb_O_begin 60 = .ok (.aload_n 0, 1) := by decide +kernel
theorem dc_O_begin_61 : decode cb_O_begin 61 = .ok (.getfield 55, 3) := by decide +kernel
theorem dc_O_begin_64 : decode cb_O_begin 64 = .ok (.iload_n 1, 1) := by decide +kernel
theorem dc_O_begin_65 : decode cb_O_begin 65 = .ok (.iconst 0, 1) := by decide +kernel
theorem dc_O_begin_66 : decode cb_O_begin 66 = .ok (.iastore, 1) := by decide +kernel
theorem dc_O_begin_67 : decode cb_O_begin 67 = .ok (.aload_n 0, 1) := by decide +kernel
theorem dc_O_begin_68 : decode cb_O_begin 68 = .ok (.getfield 58, 3) := by decide +kernel
theorem dc_O_begin_71 : decode cb_O_begin 71 = .ok (.iload_n 1, 1) := by decide +kernel
theorem dc_O_begin_72 : decode cb_O_begin 72 = .ok (.dup2, 1) := by decide +kernel
theorem dc_O_begin_73 : decode cb_O_begin 73 = .ok (.iaload, 1) := by decide +kernel
theorem dc_O_begin_74 : decode cb_O_begin 74 = .ok (.iconst 1, 1) := by decide +kernel
theorem dc_O_begin_75 : decode cb_O_begin 75 = .ok (.iadd, 1) := by decide +kernel
theorem dc_O_begin_76 : decode cb_O_begin 76 = .ok (.iastore, 1) := by decide +kernel
theorem dc_O_begin_77 : decode cb_O_begin 77 = .ok (.iconst 1, 1) := by decide +kernel
theorem dc_O_begin_78 : decode cb_O_begin 78 = .ok (.ireturn, 1) := by decide +kernel
theorem dc_O_interrupted_0 : decode cb_O_interrupted 0 = .ok (.aload_n 0, 1) := by decide +kernel
theorem dc_O_interrupted_1 : decode cb_O_interrupted 1 = .ok (.iload_n 1, 1) := by decide +kernel
theorem dc_O_interrupted_2 : decode cb_O_interrupted 2 = .ok (.invokevirtual 128, 3) := by decide +kernel
theorem dc_O_interrupted_5 : decode cb_O_interrupted 5 = .ok (.ifCond .ne 5, 3) := by decide +kernel
theorem dc_O_interrupted_8 : decode cb_O_interrupted 8 = .ok (.iconst 0, 1) := by decide +kernel
theorem dc_O_interrupted_9 : decode cb_O_interrupted 9 = .ok (.ireturn, 1) := by decide +kernel
theorem dc_O_interrupted_10 : decode cb_O_interrupted 10 = .ok (.aload_n 0, 1) := by decide +kernel
theorem dc_O_interrupted_11 : decode cb_O_interrupted 11 = .ok (.getfield 43, 3) := by decide +kernel
theorem dc_O_interrupted_14 : decode cb_O_interrupted 14 = .ok (.iload_n 1, 1) := by decide +kernel
theorem dc_O_interrupted_15 : decode cb_O_interrupted 15 = .ok (.iaload, 1) := by decide +kernel
theorem dc_O_interrupted_16 : decode cb_O_interrupted 16 = .ok (.iconst 3, 1) := by decide +kernel
theorem dc_O_interrupted_17 : decode cb_O_interrupted 17 = .ok (.if_icmp .ne 18, 3) := by decide +kernel
theorem dc_O_interrupted_20 : decode cb_O_interrupted 20 = .ok (.aload_n 0, 1) := by decide +kernel
theorem dc_O_interrupted_21 : decode cb_O_interrupted 21 = .ok (.getfield 77, 3) := by decide +kernel
theorem dc_O_interrupted_24 : decode cb_O_interrupted 24 = .ok (.iload_n 1, 1) := by decide +kernel
theorem dc_O_interrupted_25 : decode cb_O_interrupted 25 = .ok (.iconst 1, 1) := by decide +kernel
theorem dc_O_interrupted_26 : decode cb_O_interrupted 26 = .ok (.bastore, 1) := by decide +kernel
theorem dc_O_interrupted_27 : decode cb_O_interrupted 27 = .ok (.aload_n 0, 1) := by decide +kernel
theorem dc_O_interrupted_28 : decode cb_O_interrupted 28 = .ok (.iload_n 1, 1) := by decide +kernel
theorem dc_O_interrupted_29 : decode cb_O_interrupted 29 = .ok (.invokevirtual 154, 3) := by decide +kernel
theorem dc_O_interrupted_32 : decode cb_O_interrupted 32 = .ok (.goto 35, 3) := by decide +kernel
theorem dc_O_interrupted_35 : decode cb_O_interrupted 35 = .ok (.aload_n 0, 1) := by decide +kernel
theorem dc_O_interrupted_36 : decode cb_O_interrupted 36 = .ok (.getfield 43, 3) := by decide +kernel
theorem dc_O_interrupted_39 : decode cb_O_interrupted 39 = .ok (.iload_n 1, 1) := by decide +kernel
theorem dc_O_interrupted_40 : decode cb_O_interrupted 40 = .ok (.iaload, 1) := by decide +kernel
theorem dc_O_interrupted_41 : decode cb_O_interrupted 41 = .ok (.iconst 4, 1) := by decide +kernel
theorem dc_O_interrupted_42 : decode cb_O_interrupted 42 = .ok (.if_icmp .ne 18, 3) := by decide +kernel
theorem dc_O_interrupted_45 : decode cb_O_interrupted 45 = .ok (.aload_n 0, 1) := by decide +kernel
theorem dc_O_interrupted_46 : decode cb_O_interrupted 46 = .ok (.getfield 77, 3) := by decide +kernel
theorem dc_O_interrupted_49 : decode cb_O_interrupted 49 = .ok (.iload_n 1, 1) := by decide +kernel
theorem dc_O_interrupted_50 : decode cb_O_interrupted 50 = .ok (.iconst 1, 1) := by decide +kernel
theorem dc_O_interrupted_51 : decode cb_O_interrupted 51 = .ok (.bastore, 1) := by decide +kernel
theorem dc_O_interrupted_52 : decode cb_O_interrupted 52 = .ok (.aload_n 0, 1) := by decide +kernel
theorem dc_O_interrupted_53 : decode cb_O_interrupted 53 = .ok (.iload_n 1, 1) := by decide +kernel
theorem dc_O_interrupted_54 : decode cb_O_interrupted 54 = .ok (.invokevirtual 157, 3) := by decide +kernel
theorem dc_O_interrupted_57 : decode cb_O_interrupted 57 = .ok (.goto 10, 3) := by decide +kernel
theorem dc_O_interrupted_60 : decode cb_O_interrupted 60 = .ok (.aload_n 0, 1) := by decide +kernel
theorem dc_O_interrupted_61 : decode cb_O_interrupted 61 = .ok (.getfield 73, 3) := by decide +kernel
theorem dc_O_interrupted_64 : decode cb_O_interrupted 64 = .ok (.iload_n 1, 1) := by decide +kernel
theorem dc_O_interrupted_65 : decode cb_O_interrupted 65 = .ok (.iconst 1, 1) := by decide +kernel
theorem dc_O_interrupted_66 : decode cb_O_interrupted 66 = .ok (.bastore, 1) := by decide +kernel
theorem dc_O_interrupted_67 : decode cb_O_interrupted 67 = .ok (.iconst 1, 1) := by decide +kernel
theorem dc_O_interrupted_68 : decode cb_O_interrupted 68 = .ok (.ireturn, 1) := by decide +kernel
theorem dc_O_ready_0 : decode cb_O_ready 0 = .ok (.iconst 1, 1) := by decide +kernel
theorem dc_O_ready_1 : decode cb_O_ready 1 = .ok (.istore_n 1, 1) := by decide +kernel
theorem dc_O_ready_2 : decode cb_O_ready 2 = .ok (.iload_n 1, 1) := by decide +kernel
theorem dc_O_ready_3 : decode cb_O_ready 3 = .ok (.bipush 6, 2) := by decide +kernel
theorem dc_O_ready_5 : decode cb_O_ready 5 = .ok (.if_icmp .ge 45, 3) := by decide +kernel
theorem dc_O_ready_8 : decode cb_O_ready 8 = .ok (.aload_n 0, 1) := by decide +kernel
theorem dc_O_ready_9 : decode cb_O_ready 9 = .ok (.getfield 43, 3) := by decide +kernel
theorem dc_O_ready_12 : decode cb_O_ready 12 = .ok (.aload_n 0, 1) := by decide +kernel
theorem dc_O_ready_13 : decode cb_O_ready 13 = .ok (.getfield 107, 3) := by decide +kernel
theorem dc_O_ready_16 : decode cb_O_ready 16 = .ok (.bipush 6, 2) := by decide +kernel
theorem dc_O_ready_18 : decode cb_O_ready 18 = .ok (.iaload, 1) := by decide +kernel
theorem dc_O_ready_19 : decode cb_O_ready 19 = .ok (.iload_n 1, 1) := by decide +kernel
theorem dc_O_ready_20 : decode cb_O_ready 20 = .ok (.iadd, 1) := by decide +kernel
theorem dc_O_ready_21 : decode cb_O_ready 21 = .ok (.iconst 5, 1) := by decide +kernel
theorem dc_O_ready_22 : decode cb_O_ready 22 = .ok (.iadd, 1) := by decide +kernel
theorem dc_O_ready_23 : decode cb_O_ready 23 = .ok (.iconst 5, 1) := by decide +kernel
theorem dc_O_ready_24 : decode cb_O_ready 24 = .ok (.irem, 1) := by decide +kernel
theorem dc_O_ready_25 : decode cb_O_ready 25 = .ok (.iaload, 1) := by decide +kernel
theorem dc_O_ready_26 : decode cb_O_ready 26 = .ok (.iconst 1, 1) := by decide +kernel
theorem dc_O_ready_27 : decode cb_O_ready 27 = .ok (.if_icmp .ne 17, 3) := by decide +kernel
theorem dc_O_ready_30 : decode cb_O_ready 30 = .ok (.aload_n 0, 1) := by decide +kernel
theorem dc_O_ready_31 : decode cb_O_ready 31 = .ok (.getfield 107, 3) := by decide +kernel
theorem dc_O_ready_34 : decode cb_O_ready 34 = .ok (.bipush 6, 2) := by decide +kernel
theorem dc_O_ready_36 : decode cb_O_ready 36 = .ok (.iaload, 1) := by decide +kernel
theorem dc_O_ready_37 : decode cb_O_ready 37 = .ok (.iload_n 1, 1) := by decide +kernel
theorem dc_O_ready_38 : decode cb_O_ready 38 = .ok (.iadd, 1) := by decide +kernel
theorem dc_O_ready_39 : decode cb_O_ready 39 = .ok (.iconst 5, 1) := by decide +kernel
theorem dc_O_ready_40 : decode cb_O_ready 40 = .ok (.iadd, 1) := by decide +kernel
theorem dc_O_ready_41 : decode cb_O_ready 41 = .ok (.iconst 5, 1) := by decide +kernel
theorem dc_O_ready_42 : decode cb_O_ready 42 = .ok (.irem, 1) := by decide +kernel
theorem dc_O_ready_43 : decode cb_O_ready 43 = .ok (.ireturn, 1) := by decide +kernel
theorem dc_O_ready_44 : decode cb_O_ready 44 = .ok (.iinc 1 1, 3) := by decide +kernel
theorem dc_O_ready_47 : decode cb_O_ready 47 = .ok (.goto (-45), 3) := by decide +kernel
theorem dc_O_ready_50 : decode cb_O_ready 50 = .ok (.iconst (-1), 1) := by decide +kernel
theorem dc_O_ready_51 : decode cb_O_ready 51 = .ok (.ireturn, 1) := by decide +kernel
theorem dc_O_add_0 : decode cb_O_add 0 = .ok (.aload_n 0, 1) := by decide +kernel
theorem dc_O_add_1 : decode cb_O_add 1 = .ok (.iconst 0, 1) := by decide +kernel
theorem dc_O_add_2 : decode cb_O_add 2 = .ok (.putfield 114, 3) := by decide +kernel
theorem dc_O_add_5 : decode cb_O_add 5 = .ok (.iload_n 1, 1) := by decide +kernel
theorem dc_O_add_6 : decode cb_O_add 6 = .ok (.iconst 0, 1) := by decide +kernel
theorem dc_O_add_7 : decode cb_O_add 7 = .ok (.iconst 4, 1) := by decide +kernel
theorem dc_O_add_8 : decode cb_O_add 8 = .ok (.invokestatic 117, 3) := by decide +kernel
theorem dc_O_add_11 : decode cb_O_add 11 = .ok (.ifCond .eq 13, 3) := by decide +kernel
theorem dc_O_add_14 : decode cb_O_add 14 = .ok (.iload_n 2, 1) := by decide +kernel
theorem dc_O_add_15 : decode cb_O_add 15 = .ok (.iload_n 3, 1) := by decide +kernel
theorem dc_O_add_16 : decode cb_O_add 16 = .ok (.iload 4, 2) := by decide +kernel
theorem dc_O_add_18 : decode cb_O_add 18 = .ok (.invokestatic 121, 3) := by decide +kernel
theorem dc_O_add_21 : decode cb_O_add 21 = .ok (.ifCond .ne 9, 3) := by decide +kernel
theorem dc_O_add_24 : decode cb_O_add 24 = .ok (.aload_n 0, 1) := by decide +kernel
theorem dc_O_add_25 : decode cb_O_add 25 = .ok (.iconst 1, 1) := by decide +kernel
theorem dc_O_add_26 : decode cb_O_add 26 = .ok (.invokevirtual 124, 3) := by decide +kernel
theorem dc_O_add_29 : decode cb_O_add 29 = .ok (.ireturn, 1) := by decide +kernel
theorem dc_O_add_30 : decode cb_O_add 30 = .ok (.aload_n 0, 1) := by decide +kernel
theorem dc_O_add_31 : decode cb_O_add 31 = .ok (.iload_n 1, 1) := by decide +kernel
theorem dc_O_add_32 : decode cb_O_add 32 = .ok (.invokevirtual 128, 3) := by decide +kernel
theorem dc_O_add_35 : decode cb_O_add 35 = .ok (.ifCond .eq 9, 3) := by decide +kernel
theorem dc_O_add_38 : decode cb_O_add 38 = .ok (.aload_n 0, 1) := by decide +kernel
theorem dc_O_add_39 : decode cb_O_add 39 = .ok (.iconst 2, 1) := by decide +kernel
theorem dc_O_add_40 : decode cb_O_add 40 = .ok (.invokevirtual 124, 3) := by decide +kernel
theorem dc_O_add_43 : decode cb_O_add 43 = .ok (.ireturn, 1) := by decide +kernel
theorem dc_O_add_44 : decode cb_O_add 44 = .ok (.aload_n 0, 1) := by decide +kernel
theorem dc_O_add_45 : decode cb_O_add 45 = .ok (.getfield 19, 3) := by decide +kernel
theorem dc_O_add_48 : decode cb_O_add 48 = .ok (.iload_n 1, 1) := by decide +kernel
theorem dc_O_add_49 : decode cb_O_add 49 = .ok (.iaload, 1) := by decide +kernel
theorem dc_O_add_50 : decode cb_O_add 50 = .ok (.bipush 24, 2) := by decide +kernel
theorem dc_O_add_52 : decode cb_O_add 52 = .ok (.if_icmp .ne 9, 3) := by decide +kernel
theorem dc_O_add_55 : decode cb_O_add 55 = .ok (.aload_n 0, 1) := by decide +kernel
theorem dc_O_add_56 : decode cb_O_add 56 = .ok (.iconst 3, 1) := by decide +kernel
theorem dc_O_add_57 : decode cb_O_add 57 = .ok (.invokevirtual 124, 3) := by decide +kernel
theorem dc_O_add_60 : decode cb_O_add 60 = .ok (.ireturn, 1) := by decide +kernel
theorem dc_O_add_61 : decode cb_O_add 61 = .ok (.bipush 24, 2) := by decide +kernel
theorem dc_O_add_63 : decode cb_O_add 63 = .ok (.iload_n 1, 1) := by decide +kernel
theorem dc_O_add_64 : decode cb_O_add 64 = .ok (.imul, 1) := by decide +kernel
theorem dc_O_add_65 : decode cb_O_add 65 = .ok (.aload_n 0, 1) := by decide +kernel
theorem dc_O_add_66 : decode cb_O_add 66 = .ok (.getfield 19, 3) := by decide +kernel
theorem dc_O_add_69 : decode cb_O_add 69 = .ok (.iload_n 1, 1) := by decide +kernel
theorem dc_O_add_70 : decode cb_O_add 70 = .ok (.iaload, 1) := by decide +kernel
theorem dc_O_add_71 : decode cb_O_add 71 = .ok (.iadd, 1) := by decide +kernel
theorem dc_O_add_72 : decode cb_O_add 72 = .ok (.istore 5, 2) := by decide +kernel
theorem dc_O_add_74 : decode cb_O_add 74 = .ok (.aload_n 0, 1) := by decide +kernel
theorem dc_O_add_75 : decode cb_O_add 75 = .ok (.getfield 7, 3) := by decide +kernel
theorem dc_O_add_78 : decode cb_O_add 78 = .ok (.iload 5, 2) := by decide +kernel
theorem dc_O_add_80 : decode cb_O_add 80 = .ok (.iload_n 2, 1) := by decide +kernel
theorem dc_O_add_81 : decode cb_O_add 81 = .ok (.iastore, 1) := by decide +kernel
theorem dc_O_add_82 : decode cb_O_add 82 = .ok (.aload_n 0, 1) := by decide +kernel
theorem dc_O_add_83 : decode cb_O_add 83 = .ok (.getfield 13, 3) := by decide +kernel
theorem dc_O_add_86 : decode cb_O_add 86 = .ok (.iload 5, 2) := by decide +kernel
theorem dc_O_add_88 : decode cb_O_add 88 = .ok (.iload_n 3, 1) := by decide +kernel
theorem dc_O_add_89 : decode cb_O_add 89 = .ok (.iastore, 1) := by decide +kernel
theorem dc_O_add_90 : decode cb_O_add 90 = .ok (.aload_n 0, 1) := by decide +kernel
theorem dc_O_add_91 : decode cb_O_add 91 = .ok (.getfield 16, 3) := by decide +kernel
theorem dc_O_add_94 : decode cb_O_add 94 = .ok (.iload 5, 2) := by decide +kernel
theorem dc_O_add_96 : decode cb_O_add 96 = .ok (.iload 4, 2) := by decide +kernel
theorem dc_O_add_98 : decode cb_O_add 98 = .ok (.iastore, 1) := by decide +kernel
theorem dc_O_add_99 : decode cb_O_add 99 = .ok (.aload_n 0, 1) := by decide +kernel
theorem dc_O_add_100 : decode cb_O_add 100 = .ok (.getfield 19, 3) := by decide +kernel
theorem dc_O_add_103 : decode cb_O_add 103 = .ok (.iload_n 1, 1) := by decide +kernel
theorem dc_O_add_104 : decode cb_O_add 104 = .ok (.dup2, 1) := by decide +kernel
theorem dc_O_add_105 : decode cb_O_add 105 = .ok (.iaload, 1) := by decide +kernel
theorem dc_O_add_106 : decode cb_O_add 106 = .ok (.iconst 1, 1) := by decide +kernel
theorem dc_O_add_107 : decode cb_O_add 107 = .ok (.iadd, 1) := by decide +kernel
theorem dc_O_add_108 : decode cb_O_add 108 = .ok (.dup_x2, 1) := by decide +kernel
theorem dc_O_add_109 : decode cb_O_add 109 = .ok (.iastore, 1) := by decide +kernel
theorem dc_O_add_110 : decode cb_O_add 110 = .ok (.ireturn, 1) := by decide +kernel
theorem dc_O_clear_0 : decode cb_O_clear 0 = .ok (.aload_n 0, 1) := by decide +kernel
theorem dc_O_clear_1 : decode cb_O_clear 1 = .ok (.iconst 0, 1) := by decide +kernel
theorem dc_O_clear_2 : decode cb_O_clear 2 = .ok (.putfield 114, 3) := by decide +kernel
theorem dc_O_clear_5 : decode cb_O_clear 5 = .ok (.iload_n 1, 1) := by decide +kernel
theorem dc_O_clear_6 : decode cb_O_clear 6 = .ok (.iconst 0, 1) := by decide +kernel
theorem dc_O_clear_7 : decode cb_O_clear 7 = .ok (.iconst 4, 1) := by decide +kernel
theorem dc_O_clear_8 : decode cb_O_clear 8 = .ok (.invokestatic 117, 3) := by decide +kernel
theorem dc_O_clear_11 : decode cb_O_clear 11 = .ok (.ifCond .ne 9, 3) := by decide +kernel
theorem dc_O_clear_14 : decode cb_O_clear 14 = .ok (.aload_n 0, 1) := by decide +kernel
theorem dc_O_clear_15 : decode cb_O_clear 15 = .ok (.iconst 1, 1) := by decide +kernel
theorem dc_O_clear_16 : decode cb_O_clear 16 = .ok (.invokevirtual 124, 3) := by decide +kernel
theorem dc_O_clear_19 : decode cb_O_clear 19 = .ok (.ireturn, 1) := by decide +kernel
theorem dc_O_clear_20 : decode cb_O_clear 20 = .ok (.aload_n 0, 1) := by decide +kernel
theorem dc_O_clear_21 : decode cb_O_clear 21 = .ok (.iload_n 1, 1) := by decide +kernel
theorem dc_O_clear_22 : decode cb_O_clear 22 = .ok (.invokevirtual 128, 3) := by decide +kernel
theorem dc_O_clear_25 : decode cb_O_clear 25 = .ok (.ifCond .eq 9, 3) := by decide +kernel
theorem dc_O_clear_28 : decode cb_O_clear 28 = .ok (.aload_n 0, 1) := by decide +kernel
theorem dc_O_clear_29 : decode cb_O_clear 29 = .ok (.iconst 2, 1) := by decide +kernel
theorem dc_O_clear_30 : decode cb_O_clear 30 = .ok (.invokevirtual 124, 3) := by decide +kernel
theorem dc_O_clear_33 : decode cb_O_clear 33 = .ok (.ireturn, 1) := by decide +kernel
theorem dc_O_clear_34 : decode cb_O_clear 34 = .ok (.aload_n 0, 1) := by decide +kernel
theorem dc_O_clear_35 : decode cb_O_clear 35 = .ok (.getfield 19, 3) := by decide +kernel
theorem dc_O_clear_38 : decode cb_O_clear 38 = .ok (.iload_n 1, 1) := by decide +kernel
theorem dc_O_clear_39 : decode cb_O_clear 39 = .ok (.iaload, 1) := by decide +kernel
theorem dc_O_clear_40 : decode cb_O_clear 40 = .ok (.istore_n 2, 1) := by decide +kernel
theorem dc_O_clear_41 : decode cb_O_clear 41 = .ok (.aload_n 0, 1) := by decide +kernel
theorem dc_O_clear_42 : decode cb_O_clear 42 = .ok (.getfield 19, 3) := by decide +kernel
theorem dc_O_clear_45 : decode cb_O_clear 45 = .ok (.iload_n 1, 1) := by decide +kernel
theorem dc_O_clear_46 : decode cb_O_clear 46 = .ok (.iconst 0, 1) := by decide +kernel
theorem dc_O_clear_47 : decode cb_O_clear 47 = .ok (.iastore, 1) := by decide +kernel
theorem dc_O_clear_48 : decode cb_O_clear 48 = .ok (.iload_n 2, 1) := by decide +kernel
theorem dc_O_clear_49 : decode cb_O_clear 49 = .ok (.ireturn, 1) := by decide +kernel
theorem dc_O_start_0 : decode cb_O_start 0 = .ok (.aload_n 0, 1) := by decide +kernel
theorem dc_O_start_1 : decode cb_O_start 1 = .ok (.iconst 0, 1) := by decide +kernel
theorem dc_O_start_2 : decode cb_O_start 2 = .ok (.putfield 114, 3) := by decide +kernel
theorem dc_O_start_5 : decode cb_O_start 5 = .ok (.iload_n 1, 1) := by decide +kernel
theorem dc_O_start_6 : decode cb_O_start 6 = .ok (.iconst 0, 1) := by decide +kernel
theorem dc_O_start_7 : decode cb_O_start 7 = .ok (.iconst 4, 1) := by decide +kernel
theorem dc_O_start_8 : decode cb_O_start 8 = .ok (.invokestatic 117, 3) := by decide +kernel
theorem dc_O_start_11 : decode cb_O_start 11 = .ok (.ifCond .ne 9, 3) := by decide +kernel
theorem dc_O_start_14 : decode cb_O_start 14 = .ok (.aload_n 0, 1) := by decide +kernel
theorem dc_O_start_15 : decode cb_O_start 15 = .ok (.iconst 1, 1) := by decide +kernel
theorem dc_O_start_16 : decode cb_O_start 16 = .ok (.invokevirtual 124, 3) := by decide +kernel
theorem dc_O_start_19 : decode cb_O_start 19 = .ok (.ireturn, 1) := by decide +kernel
theorem dc_O_start_20 : decode cb_O_start 20 = .ok (.aload_n 0, 1) := by decide +kernel
theorem dc_O_start_21 : decode cb_O_start 21 = .ok (.iload_n 1, 1) := by decide +kernel
theorem dc_O_start_22 : decode cb_O_start 22 = .ok (.invokevirtual 179, 3) := by decide +kernel
theorem dc_O_start_25 : decode cb_O_start 25 = .ok (.ifCond .eq 7, 3) := by decide +kernel
theorem dc_O_start_28 : decode cb_O_start 28 = .ok (.iconst 1, 1) := by decide +kernel
theorem dc_O_start_29 : decode cb_O_start 29 = .ok (.goto 4, 3) := by decide +kernel
theorem dc_O_start_32 : decode cb_O_start 32 = .ok (.iconst 0, 1) := by decide +kernel
theorem dc_O_start_33 : decode cb_O_start 33 = .ok (.ireturn, 1) := by decide +kernel
theorem dc_O_run_0 : decode cb_O_run 0 = .ok (.aload_n 0, 1) := by decide +kernel
theorem dc_O_run_1 : decode cb_O_run 1 = .ok (.iconst 0, 1) := by decide +kernel
theorem dc_O_run_2 : decode cb_O_run 2 = .ok (.putfield 114, 3) := by decide +kernel
theorem dc_O_run_5 : decode cb_O_run 5 = .ok (.iload_n 1, 1) := by decide +kernel
theorem dc_O_run_6 : decode cb_O_run 6 = .ok (.iconst 1, 1) := by decide +kernel
theorem dc_O_run_7 : decode cb_O_run 7 = .ok (.bipush 40, 2) := by decide +kernel
theorem dc_O_run_9 : decode cb_O_run 9 = .ok (.invokestatic 117, 3) := by decide +kernel
theorem dc_O_run_12 : decode cb_O_run 12 = .ok (.ifCond .ne 9, 3) := by decide +kernel
theorem dc_O_run_15 : decode cb_O_run 15 = .ok (.aload_n 0, 1) := by decide +kernel
theorem dc_O_run_16 : decode cb_O_run 16 = .ok (.iconst 1, 1) := by decide +kernel
theorem dc_O_run_17 : decode cb_O_run 17 = .ok (.invokevirtual 124, 3) := by decide +kernel
theorem dc_O_run_20 : decode cb_O_run 20 = .ok (.ireturn, 1) := by decide +kernel
theorem dc_O_run_21 : decode cb_O_run 21 = .ok (.aload_n 0, 1) := by decide +kernel
theorem dc_O_run_22 : decode cb_O_run 22 = .ok (.getfield 107, 3) := by decide +kernel
theorem dc_O_run_25 : decode cb_O_run 25 = .ok (.iconst 1, 1) := by decide +kernel
theorem dc_O_run_26 : decode cb_O_run 26 = .ok (.iaload, 1) := by decide +kernel
theorem dc_O_run_27 : decode cb_O_run 27 = .ok (.istore_n 2, 1) := by decide +kernel
theorem dc_O_run_28 : decode cb_O_run 28 = .ok (.iconst 0, 1) := by decide +kernel
theorem dc_O_run_29 : decode cb_O_run 29 = .ok (.istore_n 3, 1) := by decide +kernel
theorem dc_O_run_30 : decode cb_O_run 30 = .ok (.iload_n 3, 1) := by decide +kernel
theorem dc_O_run_31 : decode cb_O_run 31 = .ok (.iload_n 1, 1) := by decide +kernel
theorem dc_O_run_32 : decode cb_O_run 32 = .ok (.if_icmp .ge 24, 3) := by decide +kernel
theorem dc_O_run_35 : decode cb_O_run 35 = .ok (.aload_n 0, 1) := by decide +kernel
theorem dc_O_run_36 : decode cb_O_run 36 = .ok (.invokevirtual 192, 3) := by decide +kernel
theorem dc_O_run_39 : decode cb_O_run 39 = .ok (.ifCond .lt 17, 3) := by decide +kernel
theorem dc_O_run_42 : decode cb_O_run 42 = .ok (.aload_n 0, 1) := by decide +kernel
theorem dc_O_run_43 : decode cb_O_run 43 = .ok (.aload_n 0, 1) := by decide +kernel
theorem dc_O_run_44 : decode cb_O_run 44 = .ok (.invokevirtual 192, 3) := by decide +kernel
theorem dc_O_run_47 : decode cb_O_run 47 = .ok (.invokevirtual 196, 3) := by decide +kernel
theorem dc_O_run_50 : decode cb_O_run 50 = .ok (.iinc 3 1, 3) := by decide +kernel
theorem dc_O_run_53 : decode cb_O_run 53 = .ok (.goto (-23), 3) := by decide +kernel
theorem dc_O_run_56 : decode cb_O_run 56 = .ok (.aload_n 0, 1) := by decide +kernel
theorem dc_O_run_57 : decode cb_O_run 57 = .ok (.getfield 107, 3) := by decide +kernel
theorem dc_O_run_60 : decode cb_O_run 60 = .ok (.iconst 1, 1) := by decide +kernel
theorem dc_O_run_61 : decode cb_O_run 61 = .ok (.iaload, 1) := by decide +kernel
theorem dc_O_run_62 : decode cb_O_run 62 = .ok (.iload_n 2, 1) := by decide +kernel
theorem dc_O_run_63 : decode cb_O_run 63 = .ok (.isub, 1) := by decide +kernel
theorem dc_O_run_64 : decode cb_O_run 64 = .ok (.ireturn, 1) := by decide +kernel
theorem dc_O_interrupt_0 : decode cb_O_interrupt 0 = .ok (.aload_n 0, 1) := by decide +kernel
theorem dc_O_interrupt_1 : decode cb_O_interrupt 1 = .ok (.iconst 0, 1) := by decide +kernel
theorem dc_O_interrupt_2 : decode cb_O_interrupt 2 = .ok (.putfield 114, 3) := by decide +kernel
theorem dc_O_interrupt_5 : decode cb_O_interrupt 5 = .ok (.iload_n 1, 1) := by decide +kernel
theorem dc_O_interrupt_6 : decode cb_O_interrupt 6 = .ok (.iconst 0, 1) := by decide +kernel
theorem dc_O_interrupt_7 : decode cb_O_interrupt 7 = .ok (.iconst 4, 1) := by decide +kernel
theorem dc_O_interrupt_8 : decode cb_O_interrupt 8 = .ok (.invokestatic 117, 3) := by decide +kernel
theorem dc_O_interrupt_11 : decode cb_O_interrupt 11 = .ok (.ifCond .ne 9, 3) := by decide +kernel
theorem dc_O_interrupt_14 : decode cb_O_interrupt 14 = .ok (.aload_n 0, 1) := by decide +kernel
theorem dc_O_interrupt_15 : decode cb_O_interrupt 15 = .ok (.iconst 1, 1) := by decide +kernel
theorem dc_O_interrupt_16 : decode cb_O_interrupt 16 = .ok (.invokevirtual 124, 3) := by decide +kernel
theorem dc_O_interrupt_19 : decode cb_O_interrupt 19 = .ok (.ireturn, 1) := by decide +kernel
theorem dc_O_interrupt_20 : decode cb_O_interrupt 20 = .ok (.aload_n 0, 1) := by decide +kernel
theorem dc_O_interrupt_21 : decode cb_O_interrupt 21 = .ok (.iload_n 1, 1) := by decide +kernel
theorem dc_O_interrupt_22 : decode cb_O_interrupt 22 = .ok (.invokevirtual 185, 3) := by decide +kernel
theorem dc_O_interrupt_25 : decode cb_O_interrupt 25 = .ok (.ifCond .eq 7, 3) := by decide +kernel
theorem dc_O_interrupt_28 : decode cb_O_interrupt 28 = .ok (.iconst 1, 1) := by decide +kernel
theorem dc_O_interrupt_29 : decode cb_O_interrupt 29 = .ok (.goto 4, 3) := by decide +kernel
theorem dc_O_interrupt_32 : decode cb_O_interrupt 32 = .ok (.iconst 0, 1) := by decide +kernel
theorem dc_O_interrupt_33 : decode cb_O_interrupt 33 = .ok (.ireturn, 1) := by decide +kernel
theorem dc_O_slice_0 : decode cb_O_slice 0 = .ok (.aload_n 0, 1) := by decide +kernel
theorem dc_O_slice_1 : decode cb_O_slice 1 = .ok (.iconst 0, 1) := by decide +kernel
theorem dc_O_slice_2 : decode cb_O_slice 2 = .ok (.putfield 114, 3) := by decide +kernel
theorem dc_O_slice_5 : decode cb_O_slice 5 = .ok (.iload_n 1, 1) := by decide +kernel
theorem dc_O_slice_6 : decode cb_O_slice 6 = .ok (.iconst 1, 1) := by decide +kernel
theorem dc_O_slice_7 : decode cb_O_slice 7 = .ok (.bipush 20, 2) := by decide +kernel
theorem dc_O_slice_9 : decode cb_O_slice 9 = .ok (.invokestatic 117, 3) := by decide +kernel
theorem dc_O_slice_12 : decode cb_O_slice 12 = .ok (.ifCond .ne 9, 3) := by decide +kernel
theorem dc_O_slice_15 : decode cb_O_slice 15 = .ok (.aload_n 0, 1) := by decide +kernel
theorem dc_O_slice_16 : decode cb_O_slice 16 = .ok (.iconst 1, 1) := by decide +kernel
theorem dc_O_slice_17 : decode cb_O_slice 17 = .ok (.invokevirtual 124, 3) := by decide +kernel
theorem dc_O_slice_20 : decode cb_O_slice 20 = .ok (.ireturn, 1) := by decide +kernel
theorem dc_O_slice_21 : decode cb_O_slice 21 = .ok (.aload_n 0, 1) := by decide +kernel
theorem dc_O_slice_22 : decode cb_O_slice 22 = .ok (.getfield 110, 3) := by decide +kernel
theorem dc_O_slice_25 : decode cb_O_slice 25 = .ok (.istore_n 2, 1) := by decide +kernel
theorem dc_O_slice_26 : decode cb_O_slice 26 = .ok (.aload_n 0, 1) := by decide +kernel
theorem dc_O_slice_27 : decode cb_O_slice 27 = .ok (.iload_n 1, 1) := by decide +kernel
theorem dc_O_slice_28 : decode cb_O_slice 28 = .ok (.putfield 110, 3) := by decide +kernel
theorem dc_O_slice_31 : decode cb_O_slice 31 = .ok (.iload_n 2, 1) := by decide +kernel
theorem dc_O_slice_32 : decode cb_O_slice 32 = .ok (.ireturn, 1) := by decide +kernel
theorem dc_O_global_0 : decode cb_O_global 0 = .ok (.aload_n 0, 1) := by decide +kernel
theorem dc_O_global_1 : decode cb_O_global 1 = .ok (.iconst 0, 1) := by decide +kernel
theorem dc_O_global_2 : decode cb_O_global 2 = .ok (.putfield 114, 3) := by decide +kernel
theorem dc_O_global_5 : decode cb_O_global 5 = .ok (.iload_n 1, 1) := by decide +kernel
theorem dc_O_global_6 : decode cb_O_global 6 = .ok (.iconst 0, 1) := by decide +kernel
theorem dc_O_global_7 : decode cb_O_global 7 = .ok (.iconst 3, 1) := by decide +kernel
theorem dc_O_global_8 : decode cb_O_global 8 = .ok (.invokestatic 117, 3) := by decide +kernel
theorem dc_O_global_11 : decode cb_O_global 11 = .ok (.ifCond .ne 9, 3) := by decide +kernel
theorem dc_O_global_14 : decode cb_O_global 14 = .ok (.aload_n 0, 1) := by decide +kernel
theorem dc_O_global_15 : decode cb_O_global 15 = .ok (.iconst 1, 1) := by decide +kernel
theorem dc_O_global_16 : decode cb_O_global 16 = .ok (.invokevirtual 124, 3) := by decide +kernel
theorem dc_O_global_19 : decode cb_O_global 19 = .ok (.ireturn, 1) := by decide +kernel
theorem dc_O_global_20 : decode cb_O_global 20 = .ok (.aload_n 0, 1) := by decide +kernel
theorem dc_O_global_21 : decode cb_O_global 21 = .ok (.getfield 22, 3) := by decide +kernel
theorem dc_O_global_24 : decode cb_O_global 24 = .ok (.iload_n 1, 1) := by decide +kernel
theorem dc_O_global_25 : decode cb_O_global 25 = .ok (.iaload, 1) := by decide +kernel
theorem dc_O_global_26 : decode cb_O_global 26 = .ok (.istore_n 3, 1) := by decide +kernel
theorem dc_O_global_27 : decode cb_O_global 27 = .ok (.aload_n 0, 1) := by decide +kernel
theorem dc_O_global_28 : decode cb_O_global 28 = .ok (.getfield 22, 3) := by decide +kernel
theorem dc_O_global_31 : decode cb_O_global 31 = .ok (.iload_n 1, 1) := by decide +kernel
theorem dc_O_global_32 : decode cb_O_global 32 = .ok (.iload_n 2, 1) := by decide +kernel
theorem dc_O_global_33 : decode cb_O_global 33 = .ok (.iastore, 1) := by decide +kernel
theorem dc_O_global_34 : decode cb_O_global 34 = .ok (.iload_n 3, 1) := by decide +kernel
theorem dc_O_global_35 : decode cb_O_global 35 = .ok (.ireturn, 1) := by decide +kernel
theorem dc_O_special_0 : decode cb_O_special 0 = .ok (.aload_n 0, 1) := by decide +kernel
theorem dc_O_special_1 : decode cb_O_special 1 = .ok (.iconst 0, 1) := by decide +kernel
theorem dc_O_special_2 : decode cb_O_special 2 = .ok (.putfield 114, 3) := by decide +kernel
theorem dc_O_special_5 : decode cb_O_special 5 = .ok (.iload_n 1, 1) := by decide +kernel
theorem dc_O_special_6 : decode cb_O_special 6 = .ok (.iconst 0, 1) := by decide +kernel
theorem dc_O_special_7 : decode cb_O_special 7 = .ok (.iconst 4, 1) := by decide +kernel
theorem dc_O_special_8 : decode cb_O_special 8 = .ok (.invokestatic 117, 3) := by decide +kernel
theorem dc_O_special_11 : decode cb_O_special 11 = .ok (.ifCond .eq 21, 3) := by decide +kernel
theorem dc_O_special_14 : decode cb_O_special 14 = .ok (.iload_n 2, 1) := by decide +kernel
theorem dc_O_special_15 : decode cb_O_special 15 = .ok (.iconst 0, 1) := by decide +kernel
theorem dc_O_special_16 : decode cb_O_special 16 = .ok (.iconst 3, 1) := by decide +kernel
theorem dc_O_special_17 : decode cb_O_special 17 = .ok (.invokestatic 117, 3) := by decide +kernel
theorem dc_O_special_20 : decode cb_O_special 20 = .ok (.ifCond .eq 12, 3) := by decide +kernel
theorem dc_O_special_23 : decode cb_O_special 23 = .ok (.aload_n 0, 1) := by decide +kernel
theorem dc_O_special_24 : decode cb_O_special 24 = .ok (.iload_n 1, 1) := by decide +kernel
theorem dc_O_special_25 : decode cb_O_special 25 = .ok (.iload_n 2, 1) := by decide +kernel
theorem dc_O_special_26 : decode cb_O_special 26 = .ok (.invokevirtual 136, 3) := by decide +kernel
theorem dc_O_special_29 : decode cb_O_special 29 = .ok (.goto 8, 3) := by decide +kernel
theorem dc_O_special_32 : decode cb_O_special 32 = .ok (.aload_n 0, 1) := by decide +kernel
theorem dc_O_special_33 : decode cb_O_special 33 = .ok (.iconst 1, 1) := by decide +kernel
theorem dc_O_special_34 : decode cb_O_special 34 = .ok (.invokevirtual 124, 3) := by decide +kernel
theorem dc_O_special_37 : decode cb_O_special 37 = .ok (.ireturn, 1) := by decide +kernel
theorem dc_O_look_0 : decode cb_O_look 0 = .ok (.aload_n 0, 1) := by decide +kernel
theorem dc_O_look_1 : decode cb_O_look 1 = .ok (.iconst 0, 1) := by decide +kernel
theorem dc_O_look_2 : decode cb_O_look 2 = .ok (.putfield 114, 3) := by decide +kernel
theorem dc_O_look_5 : decode cb_O_look 5 = .ok (.iload_n 1, 1) := by decide +kernel
theorem dc_O_look_6 : decode cb_O_look 6 = .ok (.iconst 0, 1) := by decide +kernel
theorem dc_O_look_7 : decode cb_O_look 7 = .ok (.iconst 4, 1) := by decide +kernel
theorem dc_O_look_8 : decode cb_O_look 8 = .ok (.invokestatic 117, 3) := by decide +kernel
theorem dc_O_look_11 : decode cb_O_look 11 = .ok (.ifCond .ne 9, 3) := by decide +kernel
theorem dc_O_look_14 : decode cb_O_look 14 = .ok (.aload_n 0, 1) := by decide +kernel
theorem dc_O_look_15 : decode cb_O_look 15 = .ok (.iconst 1, 1) := by decide +kernel
theorem dc_O_look_16 : decode cb_O_look 16 = .ok (.invokevirtual 124, 3) := by decide +kernel
theorem dc_O_look_19 : decode cb_O_look 19 = .ok (.ireturn, 1) := by decide +kernel
theorem dc_O_look_20 : decode cb_O_look 20 = .ok (.iload_n 2, 1) := by decide +kernel
theorem dc_O_look_21 : decode cb_O_look 21 = .ok (.tableswitch 133 0 9 #[55, 62, 69, 76, 83, 90, 105, 112, 119, 126], 55) := by decide +kernel
theorem dc_O_look_76 : decode cb_O_look 76 = .ok (.aload_n 0, 1) := by decide +kernel
theorem dc_O_look_77 : decode cb_O_look 77 = .ok (.getfield 43, 3) := by decide +kernel
theorem dc_O_look_80 : decode cb_O_look 80 = .ok (.iload_n 1, 1) := by decide +kernel
theorem dc_O_look_81 : decode cb_O_look 81 = .ok (.iaload, 1) := by decide +kernel
theorem dc_O_look_82 : decode cb_O_look 82 = .ok (.ireturn, 1) := by decide +kernel
theorem dc_O_look_83 : decode cb_O_look 83 = .ok (.aload_n 0, 1) := by decide +kernel
theorem dc_O_look_84 : decode cb_O_look 84 = .ok (.getfield 46, 3) := by decide +kernel
theorem dc_O_look_87 : decode cb_O_look 87 = .ok (.iload_n 1, 1) := by decide +kernel
theorem dc_O_look_88 : decode cb_O_look 88 = .ok (.iaload, 1) := by decide +kernel
theorem dc_O_look_89 : decode cb_O_look 89 = .ok (.ireturn, 1) := by decide +kernel
theorem dc_O_look_90 : decode cb_O_look 90 = .ok (.aload_n 0, 1) := by decide +kernel
theorem dc_O_look_91 : decode cb_O_look 91 = .ok (.getfield 49, 3) := by decide +kernel
theorem dc_O_look_94 : decode cb_O_look 94 = .ok (.iload_n 1, 1) := by decide +kernel
theorem dc_O_look_95 : decode cb_O_look 95 = .ok (.iaload, 1) := by decide +kernel
theorem dc_O_look_96 : decode cb_O_look 96 = .ok (.ireturn, 1) := by decide +kernel
theorem dc_O_look_97 : decode cb_O_look 97 = .ok (.aload_n 0, 1) := by decide +kernel
theorem dc_O_look_98 : decode cb_O_look 98 = .ok (.getfield 31, 3) := by decide +kernel
theorem dc_O_look_101 : decode cb_O_look 101 = .ok (.iload_n 1, 1) := by decide +kernel
theorem dc_O_look_102 : decode cb_O_look 102 = .ok (.iaload, 1) := by decide +kernel
theorem dc_O_look_103 : decode cb_O_look 103 = .ok (.ireturn, 1) := by decide +kernel
theorem dc_O_look_104 : decode cb_O_look 104 = .ok (.aload_n 0, 1) := by decide +kernel
theorem dc_O_look_105 : decode cb_O_look 105 = .ok (.getfield 40, 3) := by decide +kernel
theorem dc_O_look_108 : decode cb_O_look 108 = .ok (.iload_n 1, 1) := by decide +kernel
theorem dc_O_look_109 : decode cb_O_look 109 = .ok (.iaload, 1) := by decide +kernel
theorem dc_O_look_110 : decode cb_O_look 110 = .ok (.ireturn, 1) := by decide +kernel
theorem dc_O_look_111 : decode cb_O_look 111 = .ok (.aload_n 0, 1) := by decide +kernel
theorem dc_O_look_112 : decode cb_O_look 112 = .ok (.getfield 73, 3) := by decide +kernel
theorem dc_O_look_115 : decode cb_O_look 115 = .ok (.iload_n 1, 1) := by decide +kernel
theorem dc_O_look_116 : decode cb_O_look 116 = .ok (.baload, 1) := by decide +kernel
theorem dc_O_look_117 : decode cb_O_look 117 = .ok (.ifCond .eq 7, 3) := by decide +kernel
theorem dc_O_look_120 : decode cb_O_look 120 = .ok (.iconst 1, 1) := by decide +kernel
theorem dc_O_look_121 : decode cb_O_look 121 = .ok (.goto 4, 3) := by decide +kernel
theorem dc_O_look_124 : decode cb_O_look 124 = .ok (.iconst 0, 1) := by decide +kernel
theorem dc_O_look_125 : decode cb_O_look 125 = .ok (.ireturn, 1) := by decide +kernel
theorem dc_O_look_126 : decode cb_O_look 126 = .ok (.aload_n 0, 1) := by decide +kernel
theorem dc_O_look_127 : decode cb_O_look 127 = .ok (.getfield 52, 3) := by decide +kernel
theorem dc_O_look_130 : decode cb_O_look 130 = .ok (.iload_n 1, 1) := by decide +kernel
theorem dc_O_look_131 : decode cb_O_look 131 = .ok (.iaload, 1) := by decide +kernel
theorem dc_O_look_132 : decode cb_O_look 132 = .ok (.ireturn, 1) := by decide +kernel
theorem dc_O_look_133 : decode cb_O_look 133 = .ok (.aload_n 0, 1) := by decide +kernel
theorem dc_O_look_134 : decode cb_O_look 134 = .ok (.getfield 55, 3) := by decide +kernel
theorem dc_O_look_137 : decode cb_O_look 137 = .ok (.iload_n 1, 1) := by decide +kernel
theorem dc_O_look_138 : decode cb_O_look 138 = .ok (.iaload, 1) := by decide +kernel
theorem dc_O_look_139 : decode cb_O_look 139 = .ok (.ireturn, 1) := by decide +kernel
theorem dc_O_look_140 : decode cb_O_look 140 = .ok (.aload_n 0, 1) := by decide +kernel
theorem dc_O_look_141 : decode cb_O_look 141 = .ok (.getfield 58, 3) := by decide +kernel
theorem dc_O_look_144 : decode cb_O_look 144 = .ok (.iload_n 1, 1) := by decide +kernel
theorem dc_O_look_145 : decode cb_O_look 145 = .ok (.iaload, 1) := by decide +kernel
theorem dc_O_look_146 : decode cb_O_look 146 = .ok (.ireturn, 1) := by decide +kernel
theorem dc_O_look_147 : decode cb_O_look 147 = .ok (.aload_n 0, 1) := by decide +kernel
theorem dc_O_look_148 : decode cb_O_look 148 = .ok (.getfield 101, 3) := by decide +kernel
theorem dc_O_look_151 : decode cb_O_look 151 = .ok (.iload_n 1, 1) := by decide +kernel
theorem dc_O_look_152 : decode cb_O_look 152 = .ok (.iaload, 1) := by decide +kernel
theorem dc_O_look_153 : decode cb_O_look 153 = .ok (.ireturn, 1) := by decide +kernel
theorem dc_O_look_154 : decode cb_O_look 154 = .ok (.aload_n 0, 1) := by decide +kernel
theorem dc_O_look_155 : decode cb_O_look 155 = .ok (.iconst 1, 1) := by decide +kernel
theorem dc_O_look_156 : decode cb_O_look 156 = .ok (.invokevirtual 124, 3) := by decide +kernel
theorem dc_O_look_159 : decode cb_O_look 159 = .ok (.ireturn, 1) := by decide +kernel
theorem dc_O_lock_0 : decode cb_O_lock 0 = .ok (.aload_n 0, 1) := by decide +kernel
theorem dc_O_lock_1 : decode cb_O_lock 1 = .ok (.iconst 0, 1) := by decide +kernel
theorem dc_O_lock_2 : decode cb_O_lock 2 = .ok (.putfield 114, 3) := by decide +kernel
theorem dc_O_lock_5 : decode cb_O_lock 5 = .ok (.iload_n 1, 1) := by decide +kernel
theorem dc_O_lock_6 : decode cb_O_lock 6 = .ok (.iconst 0, 1) := by decide +kernel
theorem dc_O_lock_7 : decode cb_O_lock 7 = .ok (.iconst 2, 1) := by decide +kernel
theorem dc_O_lock_8 : decode cb_O_lock 8 = .ok (.invokestatic 117, 3) := by decide +kernel
theorem dc_O_lock_11 : decode cb_O_lock 11 = .ok (.ifCond .eq 12, 3) := by decide +kernel
theorem dc_O_lock_14 : decode cb_O_lock 14 = .ok (.iload_n 2, 1) := by decide +kernel
theorem dc_O_lock_15 : decode cb_O_lock 15 = .ok (.iconst 0, 1) := by decide +kernel
theorem dc_O_lock_16 : decode cb_O_lock 16 = .ok (.iconst 3, 1) := by decide +kernel
theorem dc_O_lock_17 : decode cb_O_lock 17 = .ok (.invokestatic 117, 3) := by decide +kernel
theorem dc_O_lock_20 : decode cb_O_lock 20 = .ok (.ifCond .ne 9, 3) := by decide +kernel
theorem dc_O_lock_23 : decode cb_O_lock 23 = .ok (.aload_n 0, 1) := by decide +kernel
theorem dc_O_lock_24 : decode cb_O_lock 24 = .ok (.iconst 1, 1) := by decide +kernel
theorem dc_O_lock_25 : decode cb_O_lock 25 = .ok (.invokevirtual 124, 3) := by decide +kernel
theorem dc_O_lock_28 : decode cb_O_lock 28 = .ok (.ireturn, 1) := by decide +kernel
theorem dc_O_lock_29 : decode cb_O_lock 29 = .ok (.iload_n 2, 1) := by decide +kernel
theorem dc_O_lock_30 : decode cb_O_lock 30 = .ok (.ifCond .ne 12, 3) := by decide +kernel
theorem dc_O_lock_33 : decode cb_O_lock 33 = .ok (.aload_n 0, 1) := by decide +kernel
theorem dc_O_lock_34 : decode cb_O_lock 34 = .ok (.getfield 80, 3) := by decide +kernel
theorem dc_O_lock_37 : decode cb_O_lock 37 = .ok (.iload_n 1, 1) := by decide +kernel
theorem dc_O_lock_38 : decode cb_O_lock 38 = .ok (.iaload, 1) := by decide +kernel
theorem dc_O_lock_39 : decode cb_O_lock 39 = .ok (.goto 37, 3) := by decide +kernel
theorem dc_O_lock_42 : decode cb_O_lock 42 = .ok (.iload_n 2, 1) := by decide +kernel
theorem dc_O_lock_43 : decode cb_O_lock 43 = .ok (.iconst 1, 1) := by decide +kernel
theorem dc_O_lock_44 : decode cb_O_lock 44 = .ok (.if_icmp .ne 12, 3) := by decide +kernel
theorem dc_O_lock_47 : decode cb_O_lock 47 = .ok (.aload_n 0, 1) := by decide +kernel
theorem dc_O_lock_48 : decode cb_O_lock 48 = .ok (.getfield 83, 3) := by decide +kernel
theorem dc_O_lock_51 : decode cb_O_lock 51 = .ok (.iload_n 1, 1) := by decide +kernel
theorem dc_O_lock_52 : decode cb_O_lock 52 = .ok (.iaload, 1) := by decide +kernel
theorem dc_O_lock_53 : decode cb_O_lock 53 = .ok (.goto 23, 3) := by decide +kernel
theorem dc_O_lock_56 : decode cb_O_lock 56 = .ok (.iload_n 2, 1) := by decide +kernel
theorem dc_O_lock_57 : decode cb_O_lock 57 = .ok (.iconst 2, 1) := by decide +kernel
theorem dc_O_lock_58 : decode cb_O_lock 58 = .ok (.if_icmp .ne 12, 3) := by decide +kernel
theorem dc_O_lock_61 : decode cb_O_lock 61 = .ok (.aload_n 0, 1) := by decide +kernel
theorem dc_O_lock_62 : decode cb_O_lock 62 = .ok (.getfield 89, 3) := by decide +kernel
theorem dc_O_lock_65 : decode cb_O_lock 65 = .ok (.iload_n 1, 1) := by decide +kernel
theorem dc_O_lock_66 : decode cb_O_lock 66 = .ok (.iaload, 1) := by decide +kernel
theorem dc_O_lock_67 : decode cb_O_lock 67 = .ok (.goto 9, 3) := by decide +kernel
theorem dc_O_lock_70 : decode cb_O_lock 70 = .ok (.aload_n 0, 1) := by decide +kernel
theorem dc_O_lock_71 : decode cb_O_lock 71 = .ok (.getfield 95, 3) := by decide +kernel
theorem dc_O_lock_74 : decode cb_O_lock 74 = .ok (.iload_n 1, 1) := by decide +kernel
theorem dc_O_lock_75 : decode cb_O_lock 75 = .ok (.iaload, 1) := by decide +kernel
theorem dc_O_lock_76 : decode cb_O_lock 76 = .ok (.ireturn, 1) := by decide +kernel
theorem dc_O_said_0 : decode cb_O_said 0 = .ok (.aload_n 0, 1) := by decide +kernel
theorem dc_O_said_1 : decode cb_O_said 1 = .ok (.iconst 0, 1) := by decide +kernel
theorem dc_O_said_2 : decode cb_O_said 2 = .ok (.putfield 114, 3) := by decide +kernel
theorem dc_O_said_5 : decode cb_O_said 5 = .ok (.iload_n 1, 1) := by decide +kernel
theorem dc_O_said_6 : decode cb_O_said 6 = .ok (.iconst 0, 1) := by decide +kernel
theorem dc_O_said_7 : decode cb_O_said 7 = .ok (.bipush 39, 2) := by decide +kernel
theorem dc_O_said_9 : decode cb_O_said 9 = .ok (.invokestatic 117, 3) := by decide +kernel
theorem dc_O_said_12 : decode cb_O_said 12 = .ok (.ifCond .eq 22, 3) := by decide +kernel
theorem dc_O_said_15 : decode cb_O_said 15 = .ok (.iload_n 1, 1) := by decide +kernel
theorem dc_O_said_16 : decode cb_O_said 16 = .ok (.aload_n 0, 1) := by decide +kernel
theorem dc_O_said_17 : decode cb_O_said 17 = .ok (.getfield 107, 3) := by decide +kernel
theorem dc_O_said_20 : decode cb_O_said 20 = .ok (.iconst 0, 1) := by decide +kernel
theorem dc_O_said_21 : decode cb_O_said 21 = .ok (.iaload, 1) := by decide +kernel
theorem dc_O_said_22 : decode cb_O_said 22 = .ok (.if_icmp .ge 12, 3) := by decide +kernel
theorem dc_O_said_25 : decode cb_O_said 25 = .ok (.aload_n 0, 1) := by decide +kernel
theorem dc_O_said_26 : decode cb_O_said 26 = .ok (.getfield 104, 3) := by decide +kernel
theorem dc_O_said_29 : decode cb_O_said 29 = .ok (.iload_n 1, 1) := by decide +kernel
theorem dc_O_said_30 : decode cb_O_said 30 = .ok (.iaload, 1) := by decide +kernel
theorem dc_O_said_31 : decode cb_O_said 31 = .ok (.goto 8, 3) := by decide +kernel
theorem dc_O_said_34 : decode cb_O_said 34 = .ok (.aload_n 0, 1) := by decide +kernel
theorem dc_O_said_35 : decode cb_O_said 35 = .ok (.iconst 1, 1) := by decide +kernel
theorem dc_O_said_36 : decode cb_O_said 36 = .ok (.invokevirtual 124, 3) := by decide +kernel
theorem dc_O_said_39 : decode cb_O_said 39 = .ok (.ireturn, 1) := by decide +kernel
theorem dc_O_count_0 : decode cb_O_count 0 = .ok (.aload_n 0, 1) := by decide +kernel
theorem dc_O_count_1 : decode cb_O_count 1 = .ok (.iconst 0, 1) := by decide +kernel
theorem dc_O_count_2 : decode cb_O_count 2 = .ok (.putfield 114, 3) := by decide +kernel
theorem dc_O_count_5 : decode cb_O_count 5 = .ok (.iload_n 1, 1) := by decide +kernel
theorem dc_O_count_6 : decode cb_O_count 6 = .ok (.iconst 0, 1) := by decide +kernel
theorem dc_O_count_7 : decode cb_O_count 7 = .ok (.bipush 7, 2) := by decide +kernel
theorem dc_O_count_9 : decode cb_O_count 9 = .ok (.invokestatic 117, 3) := by decide +kernel
theorem dc_O_count_12 : decode cb_O_count 12 = .ok (.ifCond .ne 9, 3) := by decide +kernel
theorem dc_O_count_15 : decode cb_O_count 15 = .ok (.aload_n 0, 1) := by decide +kernel
theorem dc_O_count_16 : decode cb_O_count 16 = .ok (.iconst 1, 1) := by decide +kernel
theorem dc_O_count_17 : decode cb_O_count 17 = .ok (.invokevirtual 124, 3) := by decide +kernel
theorem dc_O_count_20 : decode cb_O_count 20 = .ok (.ireturn, 1) := by decide +kernel
theorem dc_O_count_21 : decode cb_O_count 21 = .ok (.iload_n 1, 1) := by decide +kernel
theorem dc_O_count_22 : decode cb_O_count 22 = .ok (.iconst 3, 1) := by decide +kernel
theorem dc_O_count_23 : decode cb_O_count 23 = .ok (.if_icmp .eq 15, 3) := by decide +kernel
theorem dc_O_count_26 : decode cb_O_count 26 = .ok (.iload_n 1, 1) := by decide +kernel
theorem dc_O_count_27 : decode cb_O_count 27 = .ok (.iconst 4, 1) := by decide +kernel
theorem dc_O_count_28 : decode cb_O_count 28 = .ok (.if_icmp .eq 10, 3) := by decide +kernel
theorem dc_O_count_31 : decode cb_O_count 31 = .ok (.aload_n 0, 1) := by decide +kernel
theorem dc_O_count_32 : decode cb_O_count 32 = .ok (.getfield 107, 3) := by decide +kernel
theorem dc_O_count_35 : decode cb_O_count 35 = .ok (.iload_n 1, 1) := by decide +kernel
theorem dc_O_count_36 : decode cb_O_count 36 = .ok (.iaload, 1) := by decide +kernel
theorem dc_O_count_37 : decode cb_O_count 37 = .ok (.ireturn, 1) := by decide +kernel
theorem dc_O_count_38 : decode cb_O_count 38 = .ok (.iconst 0, 1) := by decide +kernel
theorem dc_O_count_39 : decode cb_O_count 39 = .ok (.istore_n 2, 1) := by decide +kernel
theorem dc_O_count_40 : decode cb_O_count 40 = .ok (.iconst 0, 1) := by decide +kernel
theorem dc_O_count_41 : decode cb_O_count 41 = .ok (.istore_n 3, 1) := by decide +kernel
theorem dc_O_count_42 : decode cb_O_count 42 = .ok (.iload_n 3, 1) := by decide +kernel
theorem dc_O_count_43 : decode cb_O_count 43 = .ok (.iconst 5, 1) := by decide +kernel
theorem dc_O_count_44 : decode cb_O_count 44 = .ok (.if_icmp .ge 38, 3) := by decide +kernel
theorem dc_O_count_47 : decode cb_O_count 47 = .ok (.iload_n 1, 1) := by decide +kernel
theorem dc_O_count_48 : decode cb_O_count 48 = .ok (.iconst 3, 1) := by decide +kernel
theorem dc_O_count_49 : decode cb_O_count 49 = .ok (.if_icmp .ne 14, 3) := by decide +kernel
theorem dc_O_count_52 : decode cb_O_count 52 = .ok (.aload_n 0, 1) := by decide +kernel
theorem dc_O_count_53 : decode cb_O_count 53 = .ok (.iload_n 3, 1) := by decide +kernel
theorem dc_O_count_54 : decode cb_O_count 54 = .ok (.invokevirtual 128, 3) := by decide +kernel
theorem dc_O_count_57 : decode cb_O_count 57 = .ok (.ifCond .eq 19, 3) := by decide +kernel
theorem dc_O_count_60 : decode cb_O_count 60 = .ok (.goto 13, 3) := by decide +kernel
theorem dc_O_count_63 : decode cb_O_count 63 = .ok (.aload_n 0, 1) := by decide +kernel
theorem dc_O_count_64 : decode cb_O_count 64 = .ok (.getfield 43, 3) := by decide +kernel
theorem dc_O_count_67 : decode cb_O_count 67 = .ok (.iload_n 3, 1) := by decide +kernel
theorem dc_O_count_68 : decode cb_O_count 68 = .ok (.iaload, 1) := by decide +kernel
theorem dc_O_count_69 : decode cb_O_count 69 = .ok (.iconst 1, 1) := by decide +kernel
theorem dc_O_count_70 : decode cb_O_count 70 = .ok (.if_icmp .ne 6, 3) := by decide +kernel
theorem dc_O_count_73 : decode cb_O_count 73 = .ok (.iinc 2 1, 3) := by decide +kernel
theorem dc_O_count_76 : decode cb_O_count 76 = .ok (.iinc 3 1, 3) := by decide +kernel
theorem dc_O_count_79 : decode cb_O_count 79 = .ok (.goto (-37), 3) := by decide +kernel
theorem dc_O_count_82 : decode cb_O_count 82 = .ok (.iload_n 2, 1) := by decide +kernel
theorem dc_O_count_83 : decode cb_O_count 83 = .ok (.ireturn, 1) := by decide +kernel
theorem th_b_6 : (Int8.ofInt 6).toInt32 = 6 := by decide
theorem th_b_7 : (Int8.ofInt 7).toInt32 = 7 := by decide
theorem th_b_20 : (Int8.ofInt 20).toInt32 = 20 := by decide
theorem th_b_24 : (Int8.ofInt 24).toInt32 = 24 := by decide
theorem th_b_39 : (Int8.ofInt 39).toInt32 = 39 := by decide
theorem th_b_40 : (Int8.ofInt 40).toInt32 = 40 := by decide
theorem th_c_m1 : Int32.ofInt (-1) = -1 := by decide
theorem th_c_0 : Int32.ofInt 0 = 0 := by decide
theorem th_c_1 : Int32.ofInt 1 = 1 := by decide
theorem th_c_2 : Int32.ofInt 2 = 2 := by decide
theorem th_c_3 : Int32.ofInt 3 = 3 := by decide
theorem th_c_4 : Int32.ofInt 4 = 4 := by decide
theorem th_c_5 : Int32.ofInt 5 = 5 := by decide
theorem th_c_21 : Int32.ofInt 21 = 21 := by decide
theorem th_c_24 : Int32.ofInt 24 = 24 := by decide
theorem th_l_m1 : (-1 : Int32).toInt = -1 := by decide
theorem th_l_0 : (0 : Int32).toInt = 0 := by decide
theorem th_l_1 : (1 : Int32).toInt = 1 := by decide
theorem th_l_2 : (2 : Int32).toInt = 2 := by decide
theorem th_l_3 : (3 : Int32).toInt = 3 := by decide
theorem th_l_4 : (4 : Int32).toInt = 4 := by decide
theorem th_l_5 : (5 : Int32).toInt = 5 := by decide
theorem th_l_6 : (6 : Int32).toInt = 6 := by decide
theorem th_l_7 : (7 : Int32).toInt = 7 := by decide
theorem th_l_20 : (20 : Int32).toInt = 20 := by decide
theorem th_l_21 : (21 : Int32).toInt = 21 := by decide
theorem th_l_24 : (24 : Int32).toInt = 24 := by decide
theorem th_l_39 : (39 : Int32).toInt = 39 := by decide
theorem th_l_40 : (40 : Int32).toInt = 40 := by decide
theorem fd_H_11 : th_fd rn_H 11 tf_H 12 0 := ⟨by decide, (tb 225 (by decide +kernel) rfl)⟩
theorem fd_H_20 : th_fd rn_H 20 tf_H 12 1 := ⟨by decide, (tb 226 (by decide +kernel) rfl)⟩
theorem fd_H_27 : th_fd rn_H 27 tf_H 12 2 := ⟨by decide, (tb 227 (by decide +kernel) rfl)⟩
theorem fd_H_32 : th_fd rn_H 32 tf_H 12 3 := ⟨by decide, (tb 228 (by decide +kernel) rfl)⟩
theorem fd_H_39 : th_fd rn_H 39 tf_H 12 6 := ⟨by decide, (tb 231 (by decide +kernel) rfl)⟩
theorem fd_H_43 : th_fd rn_H 43 tf_H 12 7 := ⟨by decide, (tb 232 (by decide +kernel) rfl)⟩
theorem fd_H_63 : th_fd rn_H 63 tf_S 18 1 := ⟨by decide, (tb 136 (by decide +kernel) rfl)⟩
theorem fd_H_67 : th_fd rn_H 67 tf_P 4 3 := ⟨by decide, (tb 88 (by decide +kernel) rfl)⟩
theorem fd_H_89 : th_fd rn_H 89 tf_H 12 9 := ⟨by decide, (tb 234 (by decide +kernel) rfl)⟩
theorem fd_H_106 : th_fd rn_H 106 tf_S 18 5 := ⟨by decide, (tb 144 (by decide +kernel) rfl)⟩
theorem fd_H_109 : th_fd rn_H 109 tf_S 18 6 := ⟨by decide, (tb 146 (by decide +kernel) rfl)⟩
theorem fd_H_112 : th_fd rn_H 112 tf_S 18 7 := ⟨by decide, (tb 147 (by decide +kernel) rfl)⟩
theorem fd_H_115 : th_fd rn_H 115 tf_S 18 2 := ⟨by decide, (tb 138 (by decide +kernel) rfl)⟩
theorem fd_H_119 : th_fd rn_H 119 tf_Q 3 2 := ⟨by decide, (tb 111 (by decide +kernel) rfl)⟩
theorem fd_H_122 : th_fd rn_H 122 tf_S 18 3 := ⟨by decide, (tb 140 (by decide +kernel) rfl)⟩
theorem fd_H_125 : th_fd rn_H 125 tf_S 18 11 := ⟨by decide, (tb 155 (by decide +kernel) rfl)⟩
theorem fd_H_129 : th_fd rn_H 129 tf_S 18 8 := ⟨by decide, (tb 149 (by decide +kernel) rfl)⟩
theorem fd_H_132 : th_fd rn_H 132 tf_S 18 9 := ⟨by decide, (tb 151 (by decide +kernel) rfl)⟩
theorem fd_H_135 : th_fd rn_H 135 tf_S 18 10 := ⟨by decide, (tb 153 (by decide +kernel) rfl)⟩
theorem fd_H_138 : th_fd rn_H 138 tf_S 18 4 := ⟨by decide, (tb 142 (by decide +kernel) rfl)⟩
theorem fd_H_142 : th_fd rn_H 142 tf_R 2 1 := ⟨by decide, (tb 127 (by decide +kernel) rfl)⟩
theorem fd_H_146 : th_fd rn_H 146 tf_M 3 1 := ⟨by decide, (tb 212 (by decide +kernel) rfl)⟩
theorem fd_H_149 : th_fd rn_H 149 tf_M 3 2 := ⟨by decide, (tb 214 (by decide +kernel) rfl)⟩
theorem fd_H_152 : th_fd rn_H 152 tf_M 3 0 := ⟨by decide, (tb 210 (by decide +kernel) rfl)⟩
theorem fd_H_155 : th_fd rn_H 155 tf_H 12 5 := ⟨by decide, (tb 230 (by decide +kernel) rfl)⟩
theorem fd_H_158 : th_fd rn_H 158 tf_H 12 8 := ⟨by decide, (tb 233 (by decide +kernel) rfl)⟩
theorem fd_H_167 : th_fd rn_H 167 tf_H 12 10 := ⟨by decide, (tb 235 (by decide +kernel) rfl)⟩
theorem fd_H_170 : th_fd rn_H 170 tf_H 12 11 := ⟨by decide, (tb 236 (by decide +kernel) rfl)⟩
theorem fd_Q_9 : th_fd rn_Q 9 tf_Q 3 0 := ⟨by decide, (tb 105 (by decide +kernel) rfl)⟩
theorem fd_Q_15 : th_fd rn_Q 15 tf_Q 3 1 := ⟨by decide, (tb 107 (by decide +kernel) rfl)⟩
theorem fd_Q_18 : th_fd rn_Q 18 tf_Q 3 2 := ⟨by decide, (tb 109 (by decide +kernel) rfl)⟩
theorem fd_P_9 : th_fd rn_P 9 tf_P 4 0 := ⟨by decide, (tb 81 (by decide +kernel) rfl)⟩
theorem fd_P_15 : th_fd rn_P 15 tf_P 4 1 := ⟨by decide, (tb 83 (by decide +kernel) rfl)⟩
theorem fd_P_18 : th_fd rn_P 18 tf_P 4 2 := ⟨by decide, (tb 85 (by decide +kernel) rfl)⟩
theorem fd_P_21 : th_fd rn_P 21 tf_P 4 3 := ⟨by decide, (tb 87 (by decide +kernel) rfl)⟩
theorem fd_R_9 : th_fd rn_R 9 tf_R 2 0 := ⟨by decide, (tb 125 (by decide +kernel) rfl)⟩
theorem fd_S_23 : th_fd rn_S 23 tf_S 18 2 := ⟨by decide, (tb 137 (by decide +kernel) rfl)⟩
theorem fd_S_27 : th_fd rn_S 27 tf_S 18 3 := ⟨by decide, (tb 139 (by decide +kernel) rfl)⟩
theorem fd_S_37 : th_fd rn_S 37 tf_S 18 5 := ⟨by decide, (tb 143 (by decide +kernel) rfl)⟩
theorem fd_S_41 : th_fd rn_S 41 tf_S 18 8 := ⟨by decide, (tb 148 (by decide +kernel) rfl)⟩
theorem fd_S_50 : th_fd rn_S 50 tf_S 18 6 := ⟨by decide, (tb 145 (by decide +kernel) rfl)⟩
theorem fd_S_53 : th_fd rn_S 53 tf_S 18 9 := ⟨by decide, (tb 150 (by decide +kernel) rfl)⟩
theorem fd_S_56 : th_fd rn_S 56 tf_S 18 10 := ⟨by decide, (tb 152 (by decide +kernel) rfl)⟩
theorem fd_S_59 : th_fd rn_S 59 tf_Q 3 2 := ⟨by decide, (tb 110 (by decide +kernel) rfl)⟩
theorem fd_S_65 : th_fd rn_S 65 tf_S 18 11 := ⟨by decide, (tb 154 (by decide +kernel) rfl)⟩
theorem fd_S_69 : th_fd rn_S 69 tf_S 18 12 := ⟨by decide, (tb 156 (by decide +kernel) rfl)⟩
theorem fd_O_7 : th_fd rn_O 7 tf_O 36 0 := ⟨by decide, (tb 628 (by decide +kernel) rfl)⟩
theorem fd_O_13 : th_fd rn_O 13 tf_O 36 1 := ⟨by decide, (tb 629 (by decide +kernel) rfl)⟩
theorem fd_O_16 : th_fd rn_O 16 tf_O 36 2 := ⟨by decide, (tb 630 (by decide +kernel) rfl)⟩
theorem fd_O_19 : th_fd rn_O 19 tf_O 36 3 := ⟨by decide, (tb 631 (by decide +kernel) rfl)⟩
theorem fd_O_22 : th_fd rn_O 22 tf_O 36 4 := ⟨by decide, (tb 632 (by decide +kernel) rfl)⟩
theorem fd_O_31 : th_fd rn_O 31 tf_O 36 7 := ⟨by decide, (tb 635 (by decide +kernel) rfl)⟩
theorem fd_O_40 : th_fd rn_O 40 tf_O 36 10 := ⟨by decide, (tb 638 (by decide +kernel) rfl)⟩
theorem fd_O_43 : th_fd rn_O 43 tf_O 36 11 := ⟨by decide, (tb 639 (by decide +kernel) rfl)⟩
theorem fd_O_46 : th_fd rn_O 46 tf_O 36 12 := ⟨by decide, (tb 640 (by decide +kernel) rfl)⟩
theorem fd_O_49 : th_fd rn_O 49 tf_O 36 13 := ⟨by decide, (tb 641 (by decide +kernel) rfl)⟩
theorem fd_O_52 : th_fd rn_O 52 tf_O 36 14 := ⟨by decide, (tb 642 (by decide +kernel) rfl)⟩
theorem fd_O_55 : th_fd rn_O 55 tf_O 36 15 := ⟨by decide, (tb 643 (by decide +kernel) rfl)⟩
theorem fd_O_58 : th_fd rn_O 58 tf_O 36 16 := ⟨by decide, (tb 644 (by decide +kernel) rfl)⟩
theorem fd_O_73 : th_fd rn_O 73 tf_O 36 21 := ⟨by decide, (tb 649 (by decide +kernel) rfl)⟩
theorem fd_O_77 : th_fd rn_O 77 tf_O 36 22 := ⟨by decide, (tb 650 (by decide +kernel) rfl)⟩
theorem fd_O_80 : th_fd rn_O 80 tf_O 36 23 := ⟨by decide, (tb 651 (by decide +kernel) rfl)⟩
theorem fd_O_83 : th_fd rn_O 83 tf_O 36 24 := ⟨by decide, (tb 652 (by decide +kernel) rfl)⟩
theorem fd_O_89 : th_fd rn_O 89 tf_O 36 26 := ⟨by decide, (tb 654 (by decide +kernel) rfl)⟩
theorem fd_O_95 : th_fd rn_O 95 tf_O 36 28 := ⟨by decide, (tb 656 (by decide +kernel) rfl)⟩
theorem fd_O_101 : th_fd rn_O 101 tf_O 36 30 := ⟨by decide, (tb 658 (by decide +kernel) rfl)⟩
theorem fd_O_107 : th_fd rn_O 107 tf_O 36 32 := ⟨by decide, (tb 660 (by decide +kernel) rfl)⟩
theorem fd_O_110 : th_fd rn_O 110 tf_O 36 33 := ⟨by decide, (tb 661 (by decide +kernel) rfl)⟩
theorem fd_O_114 : th_fd rn_O 114 tf_O 36 34 := ⟨by decide, (tb 662 (by decide +kernel) rfl)⟩
theorem ok_H_46 : th_okS rn_H 46 yn_H_requireBelow cb_H_requireBelow 2 none 2 := ⟨⟨(tb 274 (by decide +kernel) rfl), (tb 47 (by decide +kernel) rfl), (tb 272 (by decide +kernel) rfl), by decide, by decide, by decide⟩, (tb 273 (by decide +kernel) rfl)⟩
theorem ok_H_53 : th_okS rn_H 53 yn_H_requireOperand cb_H_requireOperand 2 none 2 := ⟨⟨(tb 345 (by decide +kernel) rfl), (tb 47 (by decide +kernel) rfl), (tb 343 (by decide +kernel) rfl), by decide, by decide, by decide⟩, (tb 344 (by decide +kernel) rfl)⟩
theorem ok_H_59 : th_okS rn_H 59 yn_H_requireNotAlive cb_H_requireNotAlive 1 none 1 := ⟨⟨(tb 350 (by decide +kernel) rfl), (tb 47 (by decide +kernel) rfl), (tb 348 (by decide +kernel) rfl), by decide, by decide, by decide⟩, (tb 349 (by decide +kernel) rfl)⟩
theorem ok_H_75 : th_okV rn_H 75 rn_P yn_P_append cb_P_append 4 none 3 := ⟨⟨(tb 388 (by decide +kernel) rfl), (tb 49 (by decide +kernel) rfl), (tb 385 (by decide +kernel) rfl), by decide, by decide, by decide⟩, (tb 386 (by decide +kernel) rfl), (tb 387 (by decide +kernel) rfl)⟩
theorem ok_H_79 : th_okV rn_H 79 rn_S yn_S_isAlive cb_S_isAlive 1 (some .boolean) 0 := ⟨⟨(tb 354 (by decide +kernel) rfl), (tb 48 (by decide +kernel) rfl), (tb 351 (by decide +kernel) rfl), by decide, by decide, by decide⟩, (tb 352 (by decide +kernel) rfl), (tb 353 (by decide +kernel) rfl)⟩
theorem ok_H_83 : th_okV rn_H 83 rn_S yn_S_beginAnew cb_S_beginAnew 1 none 0 := ⟨⟨(tb 406 (by decide +kernel) rfl), (tb 48 (by decide +kernel) rfl), (tb 403 (by decide +kernel) rfl), by decide, by decide, by decide⟩, (tb 404 (by decide +kernel) rfl), (tb 405 (by decide +kernel) rfl)⟩
theorem ok_H_86 : th_okS rn_H 86 yn_H_requireBetween cb_H_requireBetween 3 none 3 := ⟨⟨(tb 277 (by decide +kernel) rfl), (tb 47 (by decide +kernel) rfl), (tb 275 (by decide +kernel) rfl), by decide, by decide, by decide⟩, (tb 276 (by decide +kernel) rfl)⟩
theorem ok_H_92 : th_okV rn_H 92 rn_H yn_H_nextReady cb_H_nextReady 3 (some .int) 0 := ⟨⟨(tb 425 (by decide +kernel) rfl), (tb 47 (by decide +kernel) rfl), (tb 422 (by decide +kernel) rfl), by decide, by decide, by decide⟩, (tb 424 (by decide +kernel) rfl), (tb 1 (by decide +kernel) rfl)⟩
theorem ok_H_102 : th_okV rn_H 102 rn_H yn_H_read cb_H_read 4 (some .int) 2 := ⟨⟨(tb 446 (by decide +kernel) rfl), (tb 47 (by decide +kernel) rfl), (tb 443 (by decide +kernel) rfl), by decide, by decide, by decide⟩, (tb 445 (by decide +kernel) rfl), (tb 6 (by decide +kernel) rfl)⟩
theorem ok_H_161 : th_okV rn_H 161 rn_H yn_H_aliveCount cb_H_aliveCount 3 (some .int) 0 := ⟨⟨(tb 617 (by decide +kernel) rfl), (tb 47 (by decide +kernel) rfl), (tb 614 (by decide +kernel) rfl), by decide, by decide, by decide⟩, (tb 616 (by decide +kernel) rfl), (tb 22 (by decide +kernel) rfl)⟩
theorem ok_H_164 : th_okV rn_H 164 rn_H yn_H_readyCount cb_H_readyCount 3 (some .int) 0 := ⟨⟨(tb 621 (by decide +kernel) rfl), (tb 47 (by decide +kernel) rfl), (tb 618 (by decide +kernel) rfl), by decide, by decide, by decide⟩, (tb 620 (by decide +kernel) rfl), (tb 23 (by decide +kernel) rfl)⟩
theorem ok_H_251 : th_okV rn_H 251 rn_Q yn_Q_latest cb_Q_latest 3 (some .int) 1 := ⟨⟨(tb 450 (by decide +kernel) rfl), (tb 50 (by decide +kernel) rfl), (tb 447 (by decide +kernel) rfl), by decide, by decide, by decide⟩, (tb 448 (by decide +kernel) rfl), (tb 449 (by decide +kernel) rfl)⟩
theorem ok_S_47 : th_okV rn_S 47 rn_S yn_S_forgetAll cb_S_forgetAll 1 none 0 := ⟨⟨(tb 410 (by decide +kernel) rfl), (tb 48 (by decide +kernel) rfl), (tb 407 (by decide +kernel) rfl), by decide, by decide, by decide⟩, (tb 408 (by decide +kernel) rfl), (tb 409 (by decide +kernel) rfl)⟩
theorem ok_S_62 : th_okV rn_S 62 rn_S yn_S_forgetInterrupt cb_S_forgetInterrupt 1 none 0 := ⟨⟨(tb 414 (by decide +kernel) rfl), (tb 48 (by decide +kernel) rfl), (tb 411 (by decide +kernel) rfl), by decide, by decide, by decide⟩, (tb 412 (by decide +kernel) rfl), (tb 413 (by decide +kernel) rfl)⟩
theorem ok_O_117 : th_okS rn_O 117 yn_O_is cb_O_is 3 (some .boolean) 3 := ⟨⟨(tb 748 (by decide +kernel) rfl), (tb 53 (by decide +kernel) rfl), (tb 746 (by decide +kernel) rfl), by decide, by decide, by decide⟩, (tb 747 (by decide +kernel) rfl)⟩
theorem ok_O_121 : th_okS rn_O 121 yn_O_fits cb_O_fits 3 (some .boolean) 3 := ⟨⟨(tb 751 (by decide +kernel) rfl), (tb 53 (by decide +kernel) rfl), (tb 749 (by decide +kernel) rfl), by decide, by decide, by decide⟩, (tb 750 (by decide +kernel) rfl)⟩
theorem ok_O_124 : th_okV rn_O 124 rn_O yn_O_refuse cb_O_refuse 2 (some .int) 1 := ⟨⟨(tb 755 (by decide +kernel) rfl), (tb 53 (by decide +kernel) rfl), (tb 752 (by decide +kernel) rfl), by decide, by decide, by decide⟩, (tb 754 (by decide +kernel) rfl), (tb 24 (by decide +kernel) rfl)⟩
theorem ok_O_128 : th_okV rn_O 128 rn_O yn_O_alive cb_O_alive 2 (some .boolean) 1 := ⟨⟨(tb 759 (by decide +kernel) rfl), (tb 53 (by decide +kernel) rfl), (tb 756 (by decide +kernel) rfl), by decide, by decide, by decide⟩, (tb 758 (by decide +kernel) rfl), (tb 25 (by decide +kernel) rfl)⟩
theorem ok_O_132 : th_okV rn_O 132 rn_O yn_O_bound cb_O_bound 4 (some .int) 2 := ⟨⟨(tb 791 (by decide +kernel) rfl), (tb 53 (by decide +kernel) rfl), (tb 788 (by decide +kernel) rfl), by decide, by decide, by decide⟩, (tb 790 (by decide +kernel) rfl), (tb 31 (by decide +kernel) rfl)⟩
theorem ok_O_136 : th_okV rn_O 136 rn_O yn_O_get cb_O_get 4 (some .int) 2 := ⟨⟨(tb 787 (by decide +kernel) rfl), (tb 53 (by decide +kernel) rfl), (tb 784 (by decide +kernel) rfl), by decide, by decide, by decide⟩, (tb 786 (by decide +kernel) rfl), (tb 30 (by decide +kernel) rfl)⟩
theorem ok_O_179 : th_okV rn_O 179 rn_O yn_O_begin cb_O_begin 2 (some .boolean) 1 := ⟨⟨(tb 835 (by decide +kernel) rfl), (tb 53 (by decide +kernel) rfl), (tb 832 (by decide +kernel) rfl), by decide, by decide, by decide⟩, (tb 834 (by decide +kernel) rfl), (tb 42 (by decide +kernel) rfl)⟩
theorem ok_O_185 : th_okV rn_O 185 rn_O yn_O_interrupted cb_O_interrupted 2 (some .boolean) 1 := ⟨⟨(tb 843 (by decide +kernel) rfl), (tb 53 (by decide +kernel) rfl), (tb 840 (by decide +kernel) rfl), by decide, by decide, by decide⟩, (tb 842 (by decide +kernel) rfl), (tb 44 (by decide +kernel) rfl)⟩
theorem ok_O_192 : th_okV rn_O 192 rn_O yn_O_ready cb_O_ready 2 (some .int) 0 := ⟨⟨(tb 771 (by decide +kernel) rfl), (tb 53 (by decide +kernel) rfl), (tb 768 (by decide +kernel) rfl), by decide, by decide, by decide⟩, (tb 770 (by decide +kernel) rfl), (tb 26 (by decide +kernel) rfl)⟩
theorem okT_H_72 : th_okT rn_H 72 74 "java/lang/IndexOutOfBoundsException" ["java/lang/RuntimeException", "java/lang/Exception"] := ⟨by decide +kernel, by decide +kernel, (tb 370 (by decide +kernel) rfl), (tb 59 (by decide +kernel) rfl), by decide +kernel, by decide +kernel⟩
theorem okT_H_143 : th_okT rn_H 143 145 "java/lang/IllegalArgumentException" ["java/lang/RuntimeException", "java/lang/Exception"] := ⟨by decide +kernel, by decide +kernel, (tb 278 (by decide +kernel) rfl), (tb 57 (by decide +kernel) rfl), by decide +kernel, by decide +kernel⟩
theorem okT_H_173 : th_okT rn_H 173 175 "java/lang/IllegalStateException" ["java/lang/RuntimeException", "java/lang/Exception"] := ⟨by decide +kernel, by decide +kernel, (tb 355 (by decide +kernel) rfl), (tb 58 (by decide +kernel) rfl), by decide +kernel, by decide +kernel⟩
theorem sl_H_50 : Cond.fieldLink rn_H 50 th_s91.1 th_s91.2.1 "[I" ∈ th_B := (tb 341 (by decide +kernel) rfl)
theorem sl_H_56 : Cond.fieldLink rn_H 56 th_s92.1 th_s92.2.1 "[I" ∈ th_B := (tb 346 (by decide +kernel) rfl)
end
section
theorem oi_1 : Cond.instanceMethod objectInit ∈ th_B := (tb 66 (by decide +kernel) rfl)
theorem oi_2 : Cond.code objectInit ⟨#[0xb1]⟩ 1 none ∈ th_B := (tb 67 (by decide +kernel) rfl)
theorem ac_int : Cond.arrayClass .int ∈ th_B := (tb 98 (by decide +kernel) rfl)
theorem ac_boolean : Cond.arrayClass .boolean ∈ th_B := (tb 737 (by decide +kernel) rfl)
theorem hd_16 : ∀ k, k < 3 → (th_fr 16 k = true ∧ defaultValue (ft_M k) = .null) ∨ (th_fr 16 k = false ∧ defaultValue (ft_M k) = .int 0) := fun k hk => match k, hk with
  | 0, _ => Or.inl ⟨rfl, rfl⟩
  | 1, _ => Or.inr ⟨rfl, rfl⟩
  | 2, _ => Or.inr ⟨rfl, rfl⟩
  | k + 3, hk => absurd hk (by omega)
theorem hd_11 : ∀ k, k < 3 → (th_fr 11 k = true ∧ defaultValue (ft_Q k) = .null) ∨ (th_fr 11 k = false ∧ defaultValue (ft_Q k) = .int 0) := fun k hk => match k, hk with
  | 0, _ => Or.inl ⟨rfl, rfl⟩
  | 1, _ => Or.inl ⟨rfl, rfl⟩
  | 2, _ => Or.inr ⟨rfl, rfl⟩
  | k + 3, hk => absurd hk (by omega)
theorem hd_7 : ∀ k, k < 4 → (th_fr 7 k = true ∧ defaultValue (ft_P k) = .null) ∨ (th_fr 7 k = false ∧ defaultValue (ft_P k) = .int 0) := fun k hk => match k, hk with
  | 0, _ => Or.inl ⟨rfl, rfl⟩
  | 1, _ => Or.inl ⟨rfl, rfl⟩
  | 2, _ => Or.inl ⟨rfl, rfl⟩
  | 3, _ => Or.inr ⟨rfl, rfl⟩
  | k + 4, hk => absurd hk (by omega)
theorem hd_14 : ∀ k, k < 2 → (th_fr 14 k = true ∧ defaultValue (ft_R k) = .null) ∨ (th_fr 14 k = false ∧ defaultValue (ft_R k) = .int 0) := fun k hk => match k, hk with
  | 0, _ => Or.inl ⟨rfl, rfl⟩
  | 1, _ => Or.inr ⟨rfl, rfl⟩
  | k + 2, hk => absurd hk (by omega)
theorem hd_6 : ∀ k, k < 18 → (th_fr 6 k = true ∧ defaultValue (ft_S k) = .null) ∨ (th_fr 6 k = false ∧ defaultValue (ft_S k) = .int 0) := fun k hk => match k, hk with
  | 0, _ => Or.inr ⟨rfl, rfl⟩
  | 1, _ => Or.inl ⟨rfl, rfl⟩
  | 2, _ => Or.inl ⟨rfl, rfl⟩
  | 3, _ => Or.inl ⟨rfl, rfl⟩
  | 4, _ => Or.inl ⟨rfl, rfl⟩
  | 5, _ => Or.inr ⟨rfl, rfl⟩
  | 6, _ => Or.inr ⟨rfl, rfl⟩
  | 7, _ => Or.inr ⟨rfl, rfl⟩
  | 8, _ => Or.inr ⟨rfl, rfl⟩
  | 9, _ => Or.inr ⟨rfl, rfl⟩
  | 10, _ => Or.inr ⟨rfl, rfl⟩
  | 11, _ => Or.inr ⟨rfl, rfl⟩
  | 12, _ => Or.inr ⟨rfl, rfl⟩
  | 13, _ => Or.inr ⟨rfl, rfl⟩
  | 14, _ => Or.inr ⟨rfl, rfl⟩
  | 15, _ => Or.inr ⟨rfl, rfl⟩
  | 16, _ => Or.inr ⟨rfl, rfl⟩
  | 17, _ => Or.inr ⟨rfl, rfl⟩
  | k + 18, hk => absurd hk (by omega)
theorem hd_0 : ∀ k, k < 12 → (th_fr 0 k = true ∧ defaultValue (ft_H k) = .null) ∨ (th_fr 0 k = false ∧ defaultValue (ft_H k) = .int 0) := fun k hk => match k, hk with
  | 0, _ => Or.inl ⟨rfl, rfl⟩
  | 1, _ => Or.inl ⟨rfl, rfl⟩
  | 2, _ => Or.inl ⟨rfl, rfl⟩
  | 3, _ => Or.inl ⟨rfl, rfl⟩
  | 4, _ => Or.inl ⟨rfl, rfl⟩
  | 5, _ => Or.inr ⟨rfl, rfl⟩
  | 6, _ => Or.inr ⟨rfl, rfl⟩
  | 7, _ => Or.inr ⟨rfl, rfl⟩
  | 8, _ => Or.inr ⟨rfl, rfl⟩
  | 9, _ => Or.inr ⟨rfl, rfl⟩
  | 10, _ => Or.inr ⟨rfl, rfl⟩
  | 11, _ => Or.inr ⟨rfl, rfl⟩
  | k + 12, hk => absurd hk (by omega)
theorem hd_20 : ∀ k, k < 36 → (th_fr 20 k = true ∧ defaultValue (ft_O k) = .null) ∨ (th_fr 20 k = false ∧ defaultValue (ft_O k) = .int 0) := fun k hk => match k, hk with
  | 0, _ => Or.inl ⟨rfl, rfl⟩
  | 1, _ => Or.inl ⟨rfl, rfl⟩
  | 2, _ => Or.inl ⟨rfl, rfl⟩
  | 3, _ => Or.inl ⟨rfl, rfl⟩
  | 4, _ => Or.inl ⟨rfl, rfl⟩
  | 5, _ => Or.inl ⟨rfl, rfl⟩
  | 6, _ => Or.inl ⟨rfl, rfl⟩
  | 7, _ => Or.inl ⟨rfl, rfl⟩
  | 8, _ => Or.inl ⟨rfl, rfl⟩
  | 9, _ => Or.inl ⟨rfl, rfl⟩
  | 10, _ => Or.inl ⟨rfl, rfl⟩
  | 11, _ => Or.inl ⟨rfl, rfl⟩
  | 12, _ => Or.inl ⟨rfl, rfl⟩
  | 13, _ => Or.inl ⟨rfl, rfl⟩
  | 14, _ => Or.inl ⟨rfl, rfl⟩
  | 15, _ => Or.inl ⟨rfl, rfl⟩
  | 16, _ => Or.inl ⟨rfl, rfl⟩
  | 17, _ => Or.inl ⟨rfl, rfl⟩
  | 18, _ => Or.inl ⟨rfl, rfl⟩
  | 19, _ => Or.inl ⟨rfl, rfl⟩
  | 20, _ => Or.inl ⟨rfl, rfl⟩
  | 21, _ => Or.inl ⟨rfl, rfl⟩
  | 22, _ => Or.inl ⟨rfl, rfl⟩
  | 23, _ => Or.inl ⟨rfl, rfl⟩
  | 24, _ => Or.inl ⟨rfl, rfl⟩
  | 25, _ => Or.inl ⟨rfl, rfl⟩
  | 26, _ => Or.inl ⟨rfl, rfl⟩
  | 27, _ => Or.inl ⟨rfl, rfl⟩
  | 28, _ => Or.inl ⟨rfl, rfl⟩
  | 29, _ => Or.inl ⟨rfl, rfl⟩
  | 30, _ => Or.inl ⟨rfl, rfl⟩
  | 31, _ => Or.inl ⟨rfl, rfl⟩
  | 32, _ => Or.inl ⟨rfl, rfl⟩
  | 33, _ => Or.inr ⟨rfl, rfl⟩
  | 34, _ => Or.inr ⟨rfl, rfl⟩
  | 35, _ => Or.inr ⟨rfl, rfl⟩
  | k + 36, hk => absurd hk (by omega)
theorem dc_R_init_0 : decode cb_R_init 0 = .ok (.aload_n 0, 1) := by decide +kernel
theorem dc_R_init_1 : decode cb_R_init 1 = .ok (.invokespecial 3, 3) := by decide +kernel
theorem dc_R_init_4 : decode cb_R_init 4 = .ok (.aload_n 0, 1) := by decide +kernel
theorem dc_R_init_5 : decode cb_R_init 5 = .ok (.iconst 5, 1) := by decide +kernel
theorem dc_R_init_6 : decode cb_R_init 6 = .ok (.newarray .int, 2) := by decide +kernel
theorem dc_R_init_8 : decode cb_R_init 8 = .ok (.putfield 9, 3) := by decide +kernel
theorem dc_R_init_11 : decode cb_R_init 11 = .ok (.return_, 1) := by decide +kernel
theorem dc_P_init_0 : decode cb_P_init 0 = .ok (.aload_n 0, 1) := by decide +kernel
theorem dc_P_init_1 : decode cb_P_init 1 = .ok (.invokespecial 3, 3) := by decide +kernel
theorem dc_P_init_4 : decode cb_P_init 4 = .ok (.aload_n 0, 1) := by decide +kernel
theorem dc_P_init_5 : decode cb_P_init 5 = .ok (.bipush 24, 2) := by decide +kernel
theorem dc_P_init_7 : decode cb_P_init 7 = .ok (.newarray .int, 2) := by decide +kernel
theorem dc_P_init_9 : decode cb_P_init 9 = .ok (.putfield 9, 3) := by decide +kernel
theorem dc_P_init_12 : decode cb_P_init 12 = .ok (.aload_n 0, 1) := by decide +kernel
theorem dc_P_init_13 : decode cb_P_init 13 = .ok (.bipush 24, 2) := by decide +kernel
theorem dc_P_init_15 : decode cb_P_init 15 = .ok (.newarray .int, 2) := by decide +kernel
theorem dc_P_init_17 : decode cb_P_init 17 = .ok (.putfield 15, 3) := by decide +kernel
theorem dc_P_init_20 : decode cb_P_init 20 = .ok (.aload_n 0, 1) := by decide +kernel
theorem dc_P_init_21 : decode cb_P_init 21 = .ok (.bipush 24, 2) := by decide +kernel
theorem dc_P_init_23 : decode cb_P_init 23 = .ok (.newarray .int, 2) := by decide +kernel
theorem dc_P_init_25 : decode cb_P_init 25 = .ok (.putfield 18, 3) := by decide +kernel
theorem dc_P_init_28 : decode cb_P_init 28 = .ok (.return_, 1) := by decide +kernel
theorem dc_Q_init_0 : decode cb_Q_init 0 = .ok (.aload_n 0, 1) := by decide +kernel
theorem dc_Q_init_1 : decode cb_Q_init 1 = .ok (.invokespecial 3, 3) := by decide +kernel
theorem dc_Q_init_4 : decode cb_Q_init 4 = .ok (.aload_n 0, 1) := by decide +kernel
theorem dc_Q_init_5 : decode cb_Q_init 5 = .ok (.iload_n 1, 1) := by decide +kernel
theorem dc_Q_init_6 : decode cb_Q_init 6 = .ok (.newarray .int, 2) := by decide +kernel
theorem dc_Q_init_8 : decode cb_Q_init 8 = .ok (.putfield 9, 3) := by decide +kernel
theorem dc_Q_init_11 : decode cb_Q_init 11 = .ok (.aload_n 0, 1) := by decide +kernel
theorem dc_Q_init_12 : decode cb_Q_init 12 = .ok (.iload_n 1, 1) := by decide +kernel
theorem dc_Q_init_13 : decode cb_Q_init 13 = .ok (.newarray .int, 2) := by decide +kernel
theorem dc_Q_init_15 : decode cb_Q_init 15 = .ok (.putfield 15, 3) := by decide +kernel
theorem dc_Q_init_18 : decode cb_Q_init 18 = .ok (.return_, 1) := by decide +kernel
theorem dc_M_init_0 : decode cb_M_init 0 = .ok (.aload_n 0, 1) := by decide +kernel
theorem dc_M_init_1 : decode cb_M_init 1 = .ok (.invokespecial 3, 3) := by decide +kernel
theorem dc_M_init_4 : decode cb_M_init 4 = .ok (.aload_n 0, 1) := by decide +kernel
theorem dc_M_init_5 : decode cb_M_init 5 = .ok (.new 9, 3) := by decide +kernel
theorem dc_M_init_8 : decode cb_M_init 8 = .ok (.dup, 1) := by decide +kernel
theorem dc_M_init_9 : decode cb_M_init 9 = .ok (.invokespecial 11, 3) := by decide +kernel
theorem dc_M_init_12 : decode cb_M_init 12 = .ok (.putfield 12, 3) := by decide +kernel
theorem dc_M_init_15 : decode cb_M_init 15 = .ok (.aload_n 0, 1) := by decide +kernel
theorem dc_M_init_16 : decode cb_M_init 16 = .ok (.iconst (-1), 1) := by decide +kernel
theorem dc_M_init_17 : decode cb_M_init 17 = .ok (.putfield 18, 3) := by decide +kernel
theorem dc_M_init_20 : decode cb_M_init 20 = .ok (.return_, 1) := by decide +kernel
theorem dc_S_init_0 : decode cb_S_init 0 = .ok (.aload_n 0, 1) := by decide +kernel
theorem dc_S_init_1 : decode cb_S_init 1 = .ok (.invokespecial 3, 3) := by decide +kernel
theorem dc_S_init_4 : decode cb_S_init 4 = .ok (.aload_n 0, 1) := by decide +kernel
theorem dc_S_init_5 : decode cb_S_init 5 = .ok (.new 9, 3) := by decide +kernel
theorem dc_S_init_8 : decode cb_S_init 8 = .ok (.dup, 1) := by decide +kernel
theorem dc_S_init_9 : decode cb_S_init 9 = .ok (.invokespecial 11, 3) := by decide +kernel
theorem dc_S_init_12 : decode cb_S_init 12 = .ok (.putfield 12, 3) := by decide +kernel
theorem dc_S_init_15 : decode cb_S_init 15 = .ok (.aload_n 0, 1) := by decide +kernel
theorem dc_S_init_16 : decode cb_S_init 16 = .ok (.new 18, 3) := by decide +kernel
theorem dc_S_init_19 : decode cb_S_init 19 = .ok (.dup, 1) := by decide +kernel
theorem dc_S_init_20 : decode cb_S_init 20 = .ok (.bipush 12, 2) := by decide +kernel
theorem dc_S_init_22 : decode cb_S_init 22 = .ok (.invokespecial 20, 3) := by decide +kernel
theorem dc_S_init_25 : decode cb_S_init 25 = .ok (.putfield 23, 3) := by decide +kernel
theorem dc_S_init_28 : decode cb_S_init 28 = .ok (.aload_n 0, 1) := by decide +kernel
theorem dc_S_init_29 : decode cb_S_init 29 = .ok (.new 18, 3) := by decide +kernel
theorem dc_S_init_32 : decode cb_S_init 32 = .ok (.dup, 1) := by decide +kernel
theorem dc_S_init_33 : decode cb_S_init 33 = .ok (.iconst 4, 1) := by decide +kernel
theorem dc_S_init_34 : decode cb_S_init 34 = .ok (.invokespecial 20, 3) := by decide +kernel
theorem dc_S_init_37 : decode cb_S_init 37 = .ok (.putfield 27, 3) := by decide +kernel
theorem dc_S_init_40 : decode cb_S_init 40 = .ok (.aload_n 0, 1) := by decide +kernel
theorem dc_S_init_41 : decode cb_S_init 41 = .ok (.new 30, 3) := by decide +kernel
theorem dc_S_init_44 : decode cb_S_init 44 = .ok (.dup, 1) := by decide +kernel
theorem dc_S_init_45 : decode cb_S_init 45 = .ok (.invokespecial 32, 3) := by decide +kernel
theorem dc_S_init_48 : decode cb_S_init 48 = .ok (.putfield 33, 3) := by decide +kernel
theorem dc_S_init_51 : decode cb_S_init 51 = .ok (.aload_n 0, 1) := by decide +kernel
theorem dc_S_init_52 : decode cb_S_init 52 = .ok (.iconst 0, 1) := by decide +kernel
theorem dc_S_init_53 : decode cb_S_init 53 = .ok (.putfield 37, 3) := by decide +kernel
theorem dc_S_init_56 : decode cb_S_init 56 = .ok (.aload_n 0, 1) := by decide +kernel
theorem dc_S_init_57 : decode cb_S_init 57 = .ok (.bipush 24, 2) := by decide +kernel
theorem dc_S_init_59 : decode cb_S_init 59 = .ok (.putfield 41, 3) := by decide +kernel
theorem dc_S_init_62 : decode cb_S_init 62 = .ok (.aload_n 0, 1) := by decide +kernel
theorem dc_S_init_63 : decode cb_S_init 63 = .ok (.iload_n 1, 1) := by decide +kernel
theorem dc_S_init_64 : decode cb_S_init 64 = .ok (.putfield 44, 3) := by decide +kernel
theorem dc_S_init_67 : decode cb_S_init 67 = .ok (.return_, 1) := by decide +kernel
theorem dc_H_init_0 : decode cb_H_init 0 = .ok (.aload_n 0, 1) := by decide +kernel
theorem dc_H_init_1 : decode cb_H_init 1 = .ok (.invokespecial 1, 3) := by decide +kernel
theorem dc_H_init_4 : decode cb_H_init 4 = .ok (.aload_n 0, 1) := by decide +kernel
theorem dc_H_init_5 : decode cb_H_init 5 = .ok (.iconst 5, 1) := by decide +kernel
theorem dc_H_init_6 : decode cb_H_init 6 = .ok (.anewarray 9, 3) := by decide +kernel
theorem dc_H_init_9 : decode cb_H_init 9 = .ok (.putfield 11, 3) := by decide +kernel
theorem dc_H_init_12 : decode cb_H_init 12 = .ok (.iconst 0, 1) := by decide +kernel
theorem dc_H_init_13 : decode cb_H_init 13 = .ok (.istore_n 1, 1) := by decide +kernel
theorem dc_H_init_14 : decode cb_H_init 14 = .ok (.iload_n 1, 1) := by decide +kernel
theorem dc_H_init_15 : decode cb_H_init 15 = .ok (.iconst 5, 1) := by decide +kernel
theorem dc_H_init_16 : decode cb_H_init 16 = .ok (.if_icmp .ge 23, 3) := by decide +kernel
theorem dc_H_init_19 : decode cb_H_init 19 = .ok (.aload_n 0, 1) := by decide +kernel
theorem dc_H_init_20 : decode cb_H_init 20 = .ok (.getfield 11, 3) := by decide +kernel
theorem dc_H_init_23 : decode cb_H_init 23 = .ok (.iload_n 1, 1) := by decide +kernel
theorem dc_H_init_24 : decode cb_H_init 24 = .ok (.new 9, 3) := by decide +kernel
theorem dc_H_init_27 : decode cb_H_init 27 = .ok (.dup, 1) := by decide +kernel
theorem dc_H_init_28 : decode cb_H_init 28 = .ok (.iload_n 1, 1) := by decide +kernel
theorem dc_H_init_29 : decode cb_H_init 29 = .ok (.invokespecial 15, 3) := by decide +kernel
theorem dc_H_init_32 : decode cb_H_init 32 = .ok (.aastore, 1) := by decide +kernel
theorem dc_H_init_33 : decode cb_H_init 33 = .ok (.iinc 1 1, 3) := by decide +kernel
theorem dc_H_init_36 : decode cb_H_init 36 = .ok (.goto (-22), 3) := by decide +kernel
theorem dc_H_init_39 : decode cb_H_init 39 = .ok (.aload_n 0, 1) := by decide +kernel
theorem dc_H_init_40 : decode cb_H_init 40 = .ok (.iconst 3, 1) := by decide +kernel
theorem dc_H_init_41 : decode cb_H_init 41 = .ok (.anewarray 18, 3) := by decide +kernel
theorem dc_H_init_44 : decode cb_H_init 44 = .ok (.putfield 20, 3) := by decide +kernel
theorem dc_H_init_47 : decode cb_H_init 47 = .ok (.iconst 0, 1) := by decide +kernel
theorem dc_H_init_48 : decode cb_H_init 48 = .ok (.istore_n 1, 1) := by decide +kernel
theorem dc_H_init_49 : decode cb_H_init 49 = .ok (.iload_n 1, 1) := by decide +kernel
theorem dc_H_init_50 : decode cb_H_init 50 = .ok (.iconst 3, 1) := by decide +kernel
theorem dc_H_init_51 : decode cb_H_init 51 = .ok (.if_icmp .ge 22, 3) := by decide +kernel
theorem dc_H_init_54 : decode cb_H_init 54 = .ok (.aload_n 0, 1) := by decide +kernel
theorem dc_H_init_55 : decode cb_H_init 55 = .ok (.getfield 20, 3) := by decide +kernel
theorem dc_H_init_58 : decode cb_H_init 58 = .ok (.iload_n 1, 1) := by decide +kernel
theorem dc_H_init_59 : decode cb_H_init 59 = .ok (.new 18, 3) := by decide +kernel
theorem dc_H_init_62 : decode cb_H_init 62 = .ok (.dup, 1) := by decide +kernel
theorem dc_H_init_63 : decode cb_H_init 63 = .ok (.invokespecial 24, 3) := by decide +kernel
theorem dc_H_init_66 : decode cb_H_init 66 = .ok (.aastore, 1) := by decide +kernel
theorem dc_H_init_67 : decode cb_H_init 67 = .ok (.iinc 1 1, 3) := by decide +kernel
theorem dc_H_init_70 : decode cb_H_init 70 = .ok (.goto (-21), 3) := by decide +kernel
theorem dc_H_init_73 : decode cb_H_init 73 = .ok (.aload_n 0, 1) := by decide +kernel
theorem dc_H_init_74 : decode cb_H_init 74 = .ok (.iconst 3, 1) := by decide +kernel
theorem dc_H_init_75 : decode cb_H_init 75 = .ok (.anewarray 25, 3) := by decide +kernel
theorem dc_H_init_78 : decode cb_H_init 78 = .ok (.putfield 27, 3) := by decide +kernel
theorem dc_H_init_81 : decode cb_H_init 81 = .ok (.iconst 0, 1) := by decide +kernel
theorem dc_H_init_82 : decode cb_H_init 82 = .ok (.istore_n 1, 1) := by decide +kernel
theorem dc_H_init_83 : decode cb_H_init 83 = .ok (.iload_n 1, 1) := by decide +kernel
theorem dc_H_init_84 : decode cb_H_init 84 = .ok (.iconst 3, 1) := by decide +kernel
theorem dc_H_init_85 : decode cb_H_init 85 = .ok (.if_icmp .ge 22, 3) := by decide +kernel
theorem dc_H_init_88 : decode cb_H_init 88 = .ok (.aload_n 0, 1) := by decide +kernel
theorem dc_H_init_89 : decode cb_H_init 89 = .ok (.getfield 27, 3) := by decide +kernel
theorem dc_H_init_92 : decode cb_H_init 92 = .ok (.iload_n 1, 1) := by decide +kernel
theorem dc_H_init_93 : decode cb_H_init 93 = .ok (.new 25, 3) := by decide +kernel
theorem dc_H_init_96 : decode cb_H_init 96 = .ok (.dup, 1) := by decide +kernel
theorem dc_H_init_97 : decode cb_H_init 97 = .ok (.invokespecial 31, 3) := by decide +kernel
theorem dc_H_init_100 : decode cb_H_init 100 = .ok (.aastore, 1) := by decide +kernel
theorem dc_H_init_101 : decode cb_H_init 101 = .ok (.iinc 1 1, 3) := by decide +kernel
theorem dc_H_init_104 : decode cb_H_init 104 = .ok (.goto (-21), 3) := by decide +kernel
theorem dc_H_init_107 : decode cb_H_init 107 = .ok (.aload_n 0, 1) := by decide +kernel
theorem dc_H_init_108 : decode cb_H_init 108 = .ok (.iconst 4, 1) := by decide +kernel
theorem dc_H_init_109 : decode cb_H_init 109 = .ok (.newarray .int, 2) := by decide +kernel
theorem dc_H_init_111 : decode cb_H_init 111 = .ok (.putfield 32, 3) := by decide +kernel
theorem dc_H_init_114 : decode cb_H_init 114 = .ok (.aload_n 0, 1) := by decide +kernel
theorem dc_H_init_115 : decode cb_H_init 115 = .ok (.bipush 40, 2) := by decide +kernel
theorem dc_H_init_117 : decode cb_H_init 117 = .ok (.newarray .int, 2) := by decide +kernel
theorem dc_H_init_119 : decode cb_H_init 119 = .ok (.putfield 36, 3) := by decide +kernel
theorem dc_H_init_122 : decode cb_H_init 122 = .ok (.aload_n 0, 1) := by decide +kernel
theorem dc_H_init_123 : decode cb_H_init 123 = .ok (.iconst 4, 1) := by decide +kernel
theorem dc_H_init_124 : decode cb_H_init 124 = .ok (.putfield 39, 3) := by decide +kernel
theorem dc_H_init_127 : decode cb_H_init 127 = .ok (.aload_n 0, 1) := by decide +kernel
theorem dc_H_init_128 : decode cb_H_init 128 = .ok (.iconst (-1), 1) := by decide +kernel
theorem dc_H_init_129 : decode cb_H_init 129 = .ok (.putfield 43, 3) := by decide +kernel
theorem dc_H_init_132 : decode cb_H_init 132 = .ok (.return_, 1) := by decide +kernel
theorem dc_O_init_0 : decode cb_O_init 0 = .ok (.aload_n 0, 1) := by decide +kernel
theorem dc_O_init_1 : decode cb_O_init 1 = .ok (.invokespecial 1, 3) := by decide +kernel
theorem dc_O_init_4 : decode cb_O_init 4 = .ok (.aload_n 0, 1) := by decide +kernel
theorem dc_O_init_5 : decode cb_O_init 5 = .ok (.bipush 120, 2) := by decide +kernel
theorem dc_O_init_7 : decode cb_O_init 7 = .ok (.newarray .int, 2) := by decide +kernel
theorem dc_O_init_9 : decode cb_O_init 9 = .ok (.putfield 7, 3) := by decide +kernel
theorem dc_O_init_12 : decode cb_O_init 12 = .ok (.aload_n 0, 1) := by decide +kernel
theorem dc_O_init_13 : decode cb_O_init 13 = .ok (.bipush 120, 2) := by decide +kernel
theorem dc_O_init_15 : decode cb_O_init 15 = .ok (.newarray .int, 2) := by decide +kernel
theorem dc_O_init_17 : decode cb_O_init 17 = .ok (.putfield 13, 3) := by decide +kernel
theorem dc_O_init_20 : decode cb_O_init 20 = .ok (.aload_n 0, 1) := by decide +kernel
theorem dc_O_init_21 : decode cb_O_init 21 = .ok (.bipush 120, 2) := by decide +kernel
theorem dc_O_init_23 : decode cb_O_init 23 = .ok (.newarray .int, 2) := by decide +kernel
theorem dc_O_init_25 : decode cb_O_init 25 = .ok (.putfield 16, 3) := by decide +kernel
theorem dc_O_init_28 : decode cb_O_init 28 = .ok (.aload_n 0, 1) := by decide +kernel
theorem dc_O_init_29 : decode cb_O_init 29 = .ok (.iconst 5, 1) := by decide +kernel
theorem dc_O_init_30 : decode cb_O_init 30 = .ok (.newarray .int, 2) := by decide +kernel
theorem dc_O_init_32 : decode cb_O_init 32 = .ok (.putfield 19, 3) := by decide +kernel
theorem dc_O_init_35 : decode cb_O_init 35 = .ok (.aload_n 0, 1) := by decide +kernel
theorem dc_O_init_36 : decode cb_O_init 36 = .ok (.iconst 4, 1) := by decide +kernel
theorem dc_O_init_37 : decode cb_O_init 37 = .ok (.newarray .int, 2) := by decide +kernel
theorem dc_O_init_39 : decode cb_O_init 39 = .ok (.putfield 22, 3) := by decide +kernel
theorem dc_O_init_42 : decode cb_O_init 42 = .ok (.aload_n 0, 1) := by decide +kernel
theorem dc_O_init_43 : decode cb_O_init 43 = .ok (.bipush 60, 2) := by decide +kernel
theorem dc_O_init_45 : decode cb_O_init 45 = .ok (.newarray .int, 2) := by decide +kernel
theorem dc_O_init_47 : decode cb_O_init 47 = .ok (.putfield 25, 3) := by decide +kernel
theorem dc_O_init_50 : decode cb_O_init 50 = .ok (.aload_n 0, 1) := by decide +kernel
theorem dc_O_init_51 : decode cb_O_init 51 = .ok (.bipush 60, 2) := by decide +kernel
theorem dc_O_init_53 : decode cb_O_init 53 = .ok (.newarray .int, 2) := by decide +kernel
theorem dc_O_init_55 : decode cb_O_init 55 = .ok (.putfield 28, 3) := by decide +kernel
theorem dc_O_init_58 : decode cb_O_init 58 = .ok (.aload_n 0, 1) := by decide +kernel
theorem dc_O_init_59 : decode cb_O_init 59 = .ok (.iconst 5, 1) := by decide +kernel
theorem dc_O_init_60 : decode cb_O_init 60 = .ok (.newarray .int, 2) := by decide +kernel
theorem dc_O_init_62 : decode cb_O_init 62 = .ok (.putfield 31, 3) := by decide +kernel
theorem dc_O_init_65 : decode cb_O_init 65 = .ok (.aload_n 0, 1) := by decide +kernel
theorem dc_O_init_66 : decode cb_O_init 66 = .ok (.bipush 20, 2) := by decide +kernel
theorem dc_O_init_68 : decode cb_O_init 68 = .ok (.newarray .int, 2) := by decide +kernel
theorem dc_O_init_70 : decode cb_O_init 70 = .ok (.putfield 34, 3) := by decide +kernel
theorem dc_O_init_73 : decode cb_O_init 73 = .ok (.aload_n 0, 1) := by decide +kernel
theorem dc_O_init_74 : decode cb_O_init 74 = .ok (.bipush 20, 2) := by decide +kernel
theorem dc_O_init_76 : decode cb_O_init 76 = .ok (.newarray .int, 2) := by decide +kernel
theorem dc_O_init_78 : decode cb_O_init 78 = .ok (.putfield 37, 3) := by decide +kernel
theorem dc_O_init_81 : decode cb_O_init 81 = .ok (.aload_n 0, 1) := by decide +kernel
theorem dc_O_init_82 : decode cb_O_init 82 = .ok (.iconst 5, 1) := by decide +kernel
theorem dc_O_init_83 : decode cb_O_init 83 = .ok (.newarray .int, 2) := by decide +kernel
theorem dc_O_init_85 : decode cb_O_init 85 = .ok (.putfield 40, 3) := by decide +kernel
theorem dc_O_init_88 : decode cb_O_init 88 = .ok (.aload_n 0, 1) := by decide +kernel
theorem dc_O_init_89 : decode cb_O_init 89 = .ok (.iconst 5, 1) := by decide +kernel
theorem dc_O_init_90 : decode cb_O_init 90 = .ok (.newarray .int, 2) := by decide +kernel
theorem dc_O_init_92 : decode cb_O_init 92 = .ok (.putfield 43, 3) := by decide +kernel
theorem dc_O_init_95 : decode cb_O_init 95 = .ok (.aload_n 0, 1) := by decide +kernel
theorem dc_O_init_96 : decode cb_O_init 96 = .ok (.iconst 5, 1) := by decide +kernel
theorem dc_O_init_97 : decode cb_O_init 97 = .ok (.newarray .int, 2) := by decide +kernel
theorem dc_O_init_99 : decode cb_O_init 99 = .ok (.putfield 46, 3) := by decide +kernel
theorem dc_O_init_102 : decode cb_O_init 102 = .ok (.aload_n 0, 1) := by decide +kernel
theorem dc_O_init_103 : decode cb_O_init 103 = .ok (.iconst 5, 1) := by decide +kernel
theorem dc_O_init_104 : decode cb_O_init 104 = .ok (.newarray .int, 2) := by decide +kernel
theorem dc_O_init_106 : decode cb_O_init 106 = .ok (.putfield 49, 3) := by decide +kernel
theorem dc_O_init_109 : decode cb_O_init 109 = .ok (.aload_n 0, 1) := by decide +kernel
theorem dc_O_init_110 : decode cb_O_init 110 = .ok (.iconst 5, 1) := by decide +kernel
theorem dc_O_init_111 : decode cb_O_init 111 = .ok (.newarray .int, 2) := by decide +kernel
theorem dc_O_init_113 : decode cb_O_init 113 = .ok (.putfield 52, 3) := by decide +kernel
theorem dc_O_init_116 : decode cb_O_init 116 = .ok (.aload_n 0, 1) := by decide +kernel
theorem dc_O_init_117 : decode cb_O_init 117 = .ok (.iconst 5, 1) := by decide +kernel
theorem dc_O_init_118 : decode cb_O_init 118 = .ok (.newarray .int, 2) := by decide +kernel
theorem dc_O_init_120 : decode cb_O_init 120 = .ok (.putfield 55, 3) := by decide +kernel
theorem dc_O_init_123 : decode cb_O_init 123 = .ok (.aload_n 0, 1) := by decide +kernel
theorem dc_O_init_124 : decode cb_O_init 124 = .ok (.iconst 5, 1) := by decide +kernel
theorem dc_O_init_125 : decode cb_O_init 125 = .ok (.newarray .int, 2) := by decide +kernel
theorem dc_O_init_127 : decode cb_O_init 127 = .ok (.putfield 58, 3) := by decide +kernel
theorem dc_O_init_130 : decode cb_O_init 130 = .ok (.aload_n 0, 1) := by decide +kernel
theorem dc_O_init_131 : decode cb_O_init 131 = .ok (.iconst 5, 1) := by decide +kernel
theorem dc_O_init_132 : decode cb_O_init 132 = .ok (.newarray .int, 2) := by decide +kernel
theorem dc_O_init_134 : decode cb_O_init 134 = .ok (.putfield 61, 3) := by decide +kernel
theorem dc_O_init_137 : decode cb_O_init 137 = .ok (.aload_n 0, 1) := by decide +kernel
theorem dc_O_init_138 : decode cb_O_init 138 = .ok (.iconst 5, 1) := by decide +kernel
theorem dc_O_init_139 : decode cb_O_init 139 = .ok (.newarray .int, 2) := by decide +kernel
theorem dc_O_init_141 : decode cb_O_init 141 = .ok (.putfield 64, 3) := by decide +kernel
theorem dc_O_init_144 : decode cb_O_init 144 = .ok (.aload_n 0, 1) := by decide +kernel
theorem dc_O_init_145 : decode cb_O_init 145 = .ok (.iconst 5, 1) := by decide +kernel
theorem dc_O_init_146 : decode cb_O_init 146 = .ok (.newarray .int, 2) := by decide +kernel
theorem dc_O_init_148 : decode cb_O_init 148 = .ok (.putfield 67, 3) := by decide +kernel
theorem dc_O_init_151 : decode cb_O_init 151 = .ok (.aload_n 0, 1) := by decide +kernel
theorem dc_O_init_152 : decode cb_O_init 152 = .ok (.iconst 5, 1) := by decide +kernel
theorem dc_O_init_153 : decode cb_O_init 153 = .ok (.newarray .int, 2) := by decide +kernel
theorem dc_O_init_155 : decode cb_O_init 155 = .ok (.putfield 70, 3) := by decide +kernel
theorem dc_O_init_158 : decode cb_O_init 158 = .ok (.aload_n 0, 1) := by decide +kernel
theorem dc_O_init_159 : decode cb_O_init 159 = .ok (.iconst 5, 1) := by decide +kernel
theorem dc_O_init_160 : decode cb_O_init 160 = .ok (.newarray .boolean, 2) := by decide +kernel
theorem dc_O_init_162 : decode cb_O_init 162 = .ok (.putfield 73, 3) := by decide +kernel
theorem dc_O_init_165 : decode cb_O_init 165 = .ok (.aload_n 0, 1) := by decide +kernel
theorem dc_O_init_166 : decode cb_O_init 166 = .ok (.iconst 5, 1) := by decide +kernel
theorem dc_O_init_167 : decode cb_O_init 167 = .ok (.newarray .boolean, 2) := by decide +kernel
theorem dc_O_init_169 : decode cb_O_init 169 = .ok (.putfield 77, 3) := by decide +kernel
theorem dc_O_init_172 : decode cb_O_init 172 = .ok (.aload_n 0, 1) := by decide +kernel
theorem dc_O_init_173 : decode cb_O_init 173 = .ok (.iconst 3, 1) := by decide +kernel
theorem dc_O_init_174 : decode cb_O_init 174 = .ok (.newarray .int, 2) := by decide +kernel
theorem dc_O_init_176 : decode cb_O_init 176 = .ok (.putfield 80, 3) := by decide +kernel
theorem dc_O_init_179 : decode cb_O_init 179 = .ok (.aload_n 0, 1) := by decide +kernel
theorem dc_O_init_180 : decode cb_O_init 180 = .ok (.iconst 3, 1) := by decide +kernel
theorem dc_O_init_181 : decode cb_O_init 181 = .ok (.newarray .int, 2) := by decide +kernel
theorem dc_O_init_183 : decode cb_O_init 183 = .ok (.putfield 83, 3) := by decide +kernel
theorem dc_O_init_186 : decode cb_O_init 186 = .ok (.aload_n 0, 1) := by decide +kernel
theorem dc_O_init_187 : decode cb_O_init 187 = .ok (.bipush 15, 2) := by decide +kernel
theorem dc_O_init_189 : decode cb_O_init 189 = .ok (.newarray .int, 2) := by decide +kernel
theorem dc_O_init_191 : decode cb_O_init 191 = .ok (.putfield 86, 3) := by decide +kernel
theorem dc_O_init_194 : decode cb_O_init 194 = .ok (.aload_n 0, 1) := by decide +kernel
theorem dc_O_init_195 : decode cb_O_init 195 = .ok (.iconst 3, 1) := by decide +kernel
theorem dc_O_init_196 : decode cb_O_init 196 = .ok (.newarray .int, 2) := by decide +kernel
theorem dc_O_init_198 : decode cb_O_init 198 = .ok (.putfield 89, 3) := by decide +kernel
theorem dc_O_init_201 : decode cb_O_init 201 = .ok (.aload_n 0, 1) := by decide +kernel
theorem dc_O_init_202 : decode cb_O_init 202 = .ok (.bipush 15, 2) := by decide +kernel
theorem dc_O_init_204 : decode cb_O_init 204 = .ok (.newarray .int, 2) := by decide +kernel
theorem dc_O_init_206 : decode cb_O_init 206 = .ok (.putfield 92, 3) := by decide +kernel
theorem dc_O_init_209 : decode cb_O_init 209 = .ok (.aload_n 0, 1) := by decide +kernel
theorem dc_O_init_210 : decode cb_O_init 210 = .ok (.iconst 3, 1) := by decide +kernel
theorem dc_O_init_211 : decode cb_O_init 211 = .ok (.newarray .int, 2) := by decide +kernel
theorem dc_O_init_213 : decode cb_O_init 213 = .ok (.putfield 95, 3) := by decide +kernel
theorem dc_O_init_216 : decode cb_O_init 216 = .ok (.aload_n 0, 1) := by decide +kernel
theorem dc_O_init_217 : decode cb_O_init 217 = .ok (.bipush 25, 2) := by decide +kernel
theorem dc_O_init_219 : decode cb_O_init 219 = .ok (.newarray .int, 2) := by decide +kernel
theorem dc_O_init_221 : decode cb_O_init 221 = .ok (.putfield 98, 3) := by decide +kernel
theorem dc_O_init_224 : decode cb_O_init 224 = .ok (.aload_n 0, 1) := by decide +kernel
theorem dc_O_init_225 : decode cb_O_init 225 = .ok (.iconst 5, 1) := by decide +kernel
theorem dc_O_init_226 : decode cb_O_init 226 = .ok (.newarray .int, 2) := by decide +kernel
theorem dc_O_init_228 : decode cb_O_init 228 = .ok (.putfield 101, 3) := by decide +kernel
theorem dc_O_init_231 : decode cb_O_init 231 = .ok (.aload_n 0, 1) := by decide +kernel
theorem dc_O_init_232 : decode cb_O_init 232 = .ok (.bipush 40, 2) := by decide +kernel
theorem dc_O_init_234 : decode cb_O_init 234 = .ok (.newarray .int, 2) := by decide +kernel
theorem dc_O_init_236 : decode cb_O_init 236 = .ok (.putfield 104, 3) := by decide +kernel
theorem dc_O_init_239 : decode cb_O_init 239 = .ok (.aload_n 0, 1) := by decide +kernel
theorem dc_O_init_240 : decode cb_O_init 240 = .ok (.bipush 8, 2) := by decide +kernel
theorem dc_O_init_242 : decode cb_O_init 242 = .ok (.newarray .int, 2) := by decide +kernel
theorem dc_O_init_244 : decode cb_O_init 244 = .ok (.putfield 107, 3) := by decide +kernel
theorem dc_O_init_247 : decode cb_O_init 247 = .ok (.aload_n 0, 1) := by decide +kernel
theorem dc_O_init_248 : decode cb_O_init 248 = .ok (.iconst 4, 1) := by decide +kernel
theorem dc_O_init_249 : decode cb_O_init 249 = .ok (.putfield 110, 3) := by decide +kernel
theorem dc_O_init_252 : decode cb_O_init 252 = .ok (.iconst 0, 1) := by decide +kernel
theorem dc_O_init_253 : decode cb_O_init 253 = .ok (.istore_n 1, 1) := by decide +kernel
theorem dc_O_init_254 : decode cb_O_init 254 = .ok (.iload_n 1, 1) := by decide +kernel
theorem dc_O_init_255 : decode cb_O_init 255 = .ok (.iconst 3, 1) := by decide +kernel
theorem dc_O_init_256 : decode cb_O_init 256 = .ok (.if_icmp .ge 16, 3) := by decide +kernel
theorem dc_O_init_259 : decode cb_O_init 259 = .ok (.aload_n 0, 1) := by decide +kernel
theorem dc_O_init_260 : decode cb_O_init 260 = .ok (.getfield 80, 3) := by decide +kernel
theorem dc_O_init_263 : decode cb_O_init 263 = .ok (.iload_n 1, 1) := by decide +kernel
theorem dc_O_init_264 : decode cb_O_init 264 = .ok (.iconst (-1), 1) := by decide +kernel
theorem dc_O_init_265 : decode cb_O_init 265 = .ok (.iastore, 1) := by decide +kernel
theorem dc_O_init_266 : decode cb_O_init 266 = .ok (.iinc 1 1, 3) := by decide +kernel
theorem dc_O_init_269 : decode cb_O_init 269 = .ok (.goto (-15), 3) := by decide +kernel
theorem dc_O_init_272 : decode cb_O_init 272 = .ok (.iconst 0, 1) := by decide +kernel
theorem dc_O_init_273 : decode cb_O_init 273 = .ok (.istore_n 1, 1) := by decide +kernel
theorem dc_O_init_274 : decode cb_O_init 274 = .ok (.iload_n 1, 1) := by decide +kernel
theorem dc_O_init_275 : decode cb_O_init 275 = .ok (.iconst 5, 1) := by decide +kernel
theorem dc_O_init_276 : decode cb_O_init 276 = .ok (.if_icmp .ge 17, 3) := by decide +kernel
theorem dc_O_init_279 : decode cb_O_init 279 = .ok (.aload_n 0, 1) := by decide +kernel
theorem dc_O_init_280 : decode cb_O_init 280 = .ok (.getfield 52, 3) := by decide +kernel
theorem dc_O_init_283 : decode cb_O_init 283 = .ok (.iload_n 1, 1) := by decide +kernel
theorem dc_O_init_284 : decode cb_O_init 284 = .ok (.bipush 24, 2) := by decide +kernel
theorem dc_O_init_286 : decode cb_O_init 286 = .ok (.iastore, 1) := by decide +kernel
theorem dc_O_init_287 : decode cb_O_init 287 = .ok (.iinc 1 1, 3) := by decide +kernel
theorem dc_O_init_290 : decode cb_O_init 290 = .ok (.goto (-16), 3) := by decide +kernel
theorem dc_O_init_293 : decode cb_O_init 293 = .ok (.aload_n 0, 1) := by decide +kernel
theorem dc_O_init_294 : decode cb_O_init 294 = .ok (.getfield 107, 3) := by decide +kernel
theorem dc_O_init_297 : decode cb_O_init 297 = .ok (.bipush 6, 2) := by decide +kernel
theorem dc_O_init_299 : decode cb_O_init 299 = .ok (.iconst (-1), 1) := by decide +kernel
theorem dc_O_init_300 : decode cb_O_init 300 = .ok (.iastore, 1) := by decide +kernel
theorem dc_O_init_301 : decode cb_O_init 301 = .ok (.return_, 1) := by decide +kernel
end
section
set_option maxRecDepth 100000 in
set_option maxHeartbeats 4000000 in
theorem c_S_isAlive (l : Launch) (hl : l.stackTraces = false) (I : th_I) (i : Nat) (hi : i < 5) : th_F l yn_S_isAlive cb_S_isAlive 1 (some .boolean) { frames := 0, cells := 0, slots := 0, locals := 0 } [.inr (some (6, i))] (th_m I) (th_rp I (fun x => x.toInt = 1 ∧ (I 6 i 5).toInt ≠ 0 ∧ (I 6 i 5).toInt ≠ 5 ∨ x.toInt = 0 ∧ ((I 6 i 5).toInt = 0 ∨ (I 6 i 5).toInt = 5))) := by
  refine th_of hl (by decide +kernel) (Nat.le_of_ble_eq_true rfl) (fun z C hQ hN => ?_)
  show th_G l z 1 0 [(0, .inr (some (6, i)))] [] (th_m I) 0 0
  refine th_aload_n C dc_S_isAlive_0 rfl rfl ?_
  refine tq_getI C dc_S_isAlive_1 cl_6 fd_S_37 rfl (show i < 5 from by omega) (fun x1 e1 => ?_)
  have g1 : x1.toInt = (I 6 i 5).toInt := by rw [e1]
  refine tq_if_eq (tgt := 19) C dc_S_isAlive_4 (by decide) rfl (fun c2 => ?_) (fun c2 => ?_)
  · refine th_iconst (v := 0) C dc_S_isAlive_19 th_c_0 ?_
    exact th_zret C hQ dc_S_isAlive_20 (rfl) (by decide) (by decide) ⟨_, rfl, rfl, (by have := th_l_0; first | omega | (dsimp only; omega))⟩
  · refine th_aload_n C dc_S_isAlive_7 rfl rfl ?_
    refine tq_getIe C dc_S_isAlive_8 cl_6 fd_S_37 rfl (show i < 5 from by omega) e1 ?_
    refine th_iconst (v := 5) C dc_S_isAlive_11 th_c_5 ?_
    refine tq_icmp_eq (tgt := 19) C dc_S_isAlive_12 (by decide) rfl th_l_5 (fun c3 => ?_) (fun c3 => ?_)
    · refine th_iconst (v := 0) C dc_S_isAlive_19 th_c_0 ?_
      exact th_zret C hQ dc_S_isAlive_20 (rfl) (by decide) (by decide) ⟨_, rfl, rfl, (by have := th_l_0; first | omega | (dsimp only; omega))⟩
    · refine th_iconst (v := 1) C dc_S_isAlive_15 th_c_1 ?_
      refine th_goto (tgt := 20) C dc_S_isAlive_16 (by decide) ?_
      exact th_zret C hQ dc_S_isAlive_20 (rfl) (by decide) (by decide) ⟨_, rfl, rfl, (by have := th_l_1; first | omega | (dsimp only; omega))⟩

set_option maxRecDepth 100000 in
set_option maxHeartbeats 4000000 in
theorem c_S_forgetInterrupt (l : Launch) (hl : l.stackTraces = false) {K sl : Int} {Z : th_I} (I : th_I) (i : Nat) (hI : th_Inv K sl Z I) (hi : i < 5) : th_F l yn_S_forgetInterrupt cb_S_forgetInterrupt 1 none { frames := 0, cells := 0, slots := 0, locals := 0 } [.inr (some (6, i))] (th_m I) (th_rv (fun J => th_Inv K sl Z J ∧ (True))) := by
  refine th_of hl (by decide +kernel) (Nat.le_of_ble_eq_true rfl) (fun z C hQ hN => ?_)
  show th_G l z 1 0 [(0, .inr (some (6, i)))] [] (th_m I) 0 0
  have hb := hI.2.2.1
  refine th_aload_n C dc_S_forgetInterrupt_0 rfl rfl ?_
  refine th_iconst (v := 0) C dc_S_forgetInterrupt_1 th_c_0 ?_
  refine tq_putZ C dc_S_forgetInterrupt_2 cl_6 fd_S_65 rfl (show i < 5 from by omega) rfl rfl rfl rfl ?_
  refine th_gen (P := fun J => th_Inv K sl Z J ∧ J = th_u I 6 i 11 ((0 : Int32))) ⟨th_put hI (by decide) trivial, rfl⟩ (fun I1 hI1 => ?_)
  obtain ⟨hI1, u1⟩ := hI1
  have e1 : (0 : Int32) = I1 6 i 11 := by rw [u1, th_u_eq]
  have g1 : 0 = (I1 6 i 11).toInt := by rw [← e1]; exact th_l_0.symm
  refine th_aload_n C dc_S_forgetInterrupt_5 rfl rfl ?_
  refine th_iconst (v := 0) C dc_S_forgetInterrupt_6 th_c_0 ?_
  refine tq_putZ C dc_S_forgetInterrupt_7 cl_6 fd_S_69 rfl (show i < 5 from by omega) rfl rfl rfl rfl ?_
  refine th_gen (P := fun J => th_Inv K sl Z J ∧ J = th_u I1 6 i 12 ((0 : Int32))) ⟨th_put hI1 (by decide) trivial, rfl⟩ (fun I2 hI2 => ?_)
  obtain ⟨hI2, u2⟩ := hI2
  have e3 : (0 : Int32) = I2 6 i 11 := by rw [u2, th_u_slot (by decide)]; exact e1
  have g3 : (0 : Int32).toInt = (I2 6 i 11).toInt := by rw [← e3]
  have e2 : (0 : Int32) = I2 6 i 12 := by rw [u2, th_u_eq]
  have g2 : 0 = (I2 6 i 12).toInt := by rw [← e2]; exact th_l_0.symm
  exact th_vret C hQ dc_S_forgetInterrupt_10 (by decide) (by decide) ⟨_, rfl, rfl, hI2, trivial⟩

set_option maxRecDepth 100000 in
set_option maxHeartbeats 4000000 in
theorem c_S_forgetAll (l : Launch) (hl : l.stackTraces = false) {K sl : Int} {Z : th_I} (I : th_I) (i : Nat) (hI : th_Inv K sl Z I) (hi : i < 5) : th_F l yn_S_forgetAll cb_S_forgetAll 1 none { frames := 1, cells := 0, slots := 0, locals := 20 } [.inr (some (6, i))] (th_m I) (th_rv (fun J => th_Inv K sl Z J ∧ (True))) := by
  refine th_of hl (by decide +kernel) (Nat.le_of_ble_eq_true rfl) (fun z C hQ hN => ?_)
  show th_G l z 1 0 [(0, .inr (some (6, i)))] [] (th_m I) 0 0
  have hb := hI.2.2.1
  refine th_aload_n C dc_S_forgetAll_0 rfl rfl ?_
  refine tq_getR C dc_S_forgetAll_1 cl_6 fd_S_23 rfl (show i < 5 from by omega) rfl ?_
  refine th_iconst (v := 0) C dc_S_forgetAll_4 th_c_0 ?_
  refine tq_putI C dc_S_forgetAll_5 cl_11 fd_S_59 rfl (show 2 * i < 10 from by omega) rfl rfl ?_
  refine th_gen (P := fun J => th_Inv K sl Z J ∧ J = th_u I 11 (2 * i) 2 ((0 : Int32))) ⟨th_put hI (by decide) (show 0 ≤ (0 : Int32).toInt ∧ (0 : Int32).toInt ≤ (th_lp (2 * i) : Int) from by rw [th_l_0]; omega), rfl⟩ (fun I1 hI1 => ?_)
  obtain ⟨hI1, u1⟩ := hI1
  have e1 : (0 : Int32) = I1 11 (2 * i) 2 := by rw [u1, th_u_eq]
  have g1 : 0 = (I1 11 (2 * i) 2).toInt := by rw [← e1]; exact th_l_0.symm
  refine th_aload_n C dc_S_forgetAll_8 rfl rfl ?_
  refine tq_getR C dc_S_forgetAll_9 cl_6 fd_S_27 rfl (show i < 5 from by omega) rfl ?_
  refine th_iconst (v := 0) C dc_S_forgetAll_12 th_c_0 ?_
  refine tq_putI C dc_S_forgetAll_13 cl_11 fd_S_59 rfl (show 2 * i + 1 < 10 from by omega) rfl rfl ?_
  refine th_gen (P := fun J => th_Inv K sl Z J ∧ J = th_u I1 11 (2 * i + 1) 2 ((0 : Int32))) ⟨th_put hI1 (by decide) (show 0 ≤ (0 : Int32).toInt ∧ (0 : Int32).toInt ≤ (th_lp (2 * i + 1) : Int) from by rw [th_l_0]; omega), rfl⟩ (fun I2 hI2 => ?_)
  obtain ⟨hI2, u2⟩ := hI2
  have e2 : (0 : Int32) = I2 11 (2 * i + 1) 2 := by rw [u2, th_u_eq]
  have g2 : 0 = (I2 11 (2 * i + 1) 2).toInt := by rw [← e2]; exact th_l_0.symm
  refine th_aload_n C dc_S_forgetAll_16 rfl rfl ?_
  refine th_bipush (v := 24) C dc_S_forgetAll_17 th_b_24 ?_
  refine tq_putI C dc_S_forgetAll_19 cl_6 fd_S_41 rfl (show i < 5 from by omega) rfl rfl ?_
  refine th_gen (P := fun J => th_Inv K sl Z J ∧ J = th_u I2 6 i 8 ((24 : Int32))) ⟨th_put hI2 (by decide) (show 0 ≤ (24 : Int32).toInt ∧ (24 : Int32).toInt ≤ 24 from by rw [th_l_24]; omega), rfl⟩ (fun I3 hI3 => ?_)
  obtain ⟨hI3, u3⟩ := hI3
  have e4 : (0 : Int32) = I3 11 (2 * i + 1) 2 := by rw [u3, th_u_tag (by decide)]; exact e2
  have g4 : (0 : Int32).toInt = (I3 11 (2 * i + 1) 2).toInt := by rw [← e4]
  have e3 : (24 : Int32) = I3 6 i 8 := by rw [u3, th_u_eq]
  have g3 : 24 = (I3 6 i 8).toInt := by rw [← e3]; exact th_l_24.symm
  refine th_aload_n C dc_S_forgetAll_22 rfl rfl ?_
  refine tq_callVv C (c_S_forgetInterrupt l hl I3 i hI3 (by omega)) ok_S_62 cl_6 (show i < 5 from by omega) rfl (by decide) dc_S_forgetAll_23 rfl (fun I5 p5 => ?_)
  obtain ⟨hI5, p5⟩ := p5
  exact th_vret C hQ dc_S_forgetAll_26 (by decide) (by decide) ⟨_, rfl, rfl, hI5, trivial⟩

set_option maxRecDepth 100000 in
set_option maxHeartbeats 4000000 in
theorem c_S_beginAnew (l : Launch) (hl : l.stackTraces = false) {K sl : Int} {Z : th_I} (I : th_I) (i : Nat) (hI : th_Inv K sl Z I) (hi : i < 5) : th_F l yn_S_beginAnew cb_S_beginAnew 1 none { frames := 2, cells := 0, slots := 0, locals := 40 } [.inr (some (6, i))] (th_m I) (th_rv (fun J => th_Inv K sl Z J ∧ (True))) := by
  refine th_of hl (by decide +kernel) (Nat.le_of_ble_eq_true rfl) (fun z C hQ hN => ?_)
  show th_G l z 1 0 [(0, .inr (some (6, i)))] [] (th_m I) 0 0
  have hb := hI.2.2.1
  refine th_aload_n C dc_S_beginAnew_0 rfl rfl ?_
  refine tq_callVv C (c_S_forgetAll l hl I i hI (by omega)) ok_S_47 cl_6 (show i < 5 from by omega) rfl (by decide) dc_S_beginAnew_1 rfl (fun I1 p1 => ?_)
  obtain ⟨hI1, p1⟩ := p1
  refine th_aload_n C dc_S_beginAnew_4 rfl rfl ?_
  refine th_iconst (v := 1) C dc_S_beginAnew_5 th_c_1 ?_
  refine tq_putI C dc_S_beginAnew_6 cl_6 fd_S_37 rfl (show i < 5 from by omega) rfl rfl ?_
  refine th_gen (P := fun J => th_Inv K sl Z J ∧ J = th_u I1 6 i 5 ((1 : Int32))) ⟨th_put hI1 (by decide) trivial, rfl⟩ (fun I2 hI2 => ?_)
  obtain ⟨hI2, u2⟩ := hI2
  have e2 : (1 : Int32) = I2 6 i 5 := by rw [u2, th_u_eq]
  have g2 : 1 = (I2 6 i 5).toInt := by rw [← e2]; exact th_l_1.symm
  refine th_aload_n C dc_S_beginAnew_9 rfl rfl ?_
  refine th_iconst (v := 0) C dc_S_beginAnew_10 th_c_0 ?_
  refine tq_putI C dc_S_beginAnew_11 cl_6 fd_S_50 rfl (show i < 5 from by omega) rfl rfl ?_
  refine th_gen (P := fun J => th_Inv K sl Z J ∧ J = th_u I2 6 i 6 ((0 : Int32))) ⟨th_put hI2 (by decide) (show 0 ≤ (0 : Int32).toInt ∧ (0 : Int32).toInt ≤ 24 from by rw [th_l_0]; omega), rfl⟩ (fun I3 hI3 => ?_)
  obtain ⟨hI3, u3⟩ := hI3
  have e4 : (1 : Int32) = I3 6 i 5 := by rw [u3, th_u_slot (by decide)]; exact e2
  have g4 : (1 : Int32).toInt = (I3 6 i 5).toInt := by rw [← e4]
  have e3 : (0 : Int32) = I3 6 i 6 := by rw [u3, th_u_eq]
  have g3 : 0 = (I3 6 i 6).toInt := by rw [← e3]; exact th_l_0.symm
  refine th_aload_n C dc_S_beginAnew_14 rfl rfl ?_
  refine th_iconst (v := 0) C dc_S_beginAnew_15 th_c_0 ?_
  refine tq_putI C dc_S_beginAnew_16 cl_6 fd_S_53 rfl (show i < 5 from by omega) rfl rfl ?_
  refine th_gen (P := fun J => th_Inv K sl Z J ∧ J = th_u I3 6 i 9 ((0 : Int32))) ⟨th_put hI3 (by decide) trivial, rfl⟩ (fun I5 hI5 => ?_)
  obtain ⟨hI5, u5⟩ := hI5
  have e6 : (1 : Int32) = I5 6 i 5 := by rw [u5, th_u_slot (by decide)]; exact e4
  have g6 : (1 : Int32).toInt = (I5 6 i 5).toInt := by rw [← e6]
  have e7 : (0 : Int32) = I5 6 i 6 := by rw [u5, th_u_slot (by decide)]; exact e3
  have g7 : (0 : Int32).toInt = (I5 6 i 6).toInt := by rw [← e7]
  have e5 : (0 : Int32) = I5 6 i 9 := by rw [u5, th_u_eq]
  have g5 : 0 = (I5 6 i 9).toInt := by rw [← e5]; exact th_l_0.symm
  refine th_aload_n C dc_S_beginAnew_19 rfl rfl ?_
  refine th_dup C dc_S_beginAnew_20 ?_
  refine tq_getI C dc_S_beginAnew_21 cl_6 fd_S_56 rfl (show i < 5 from by omega) (fun x8 e8 => ?_)
  have g8 : x8.toInt = (I5 6 i 10).toInt := by rw [e8]
  refine th_iconst (v := 1) C dc_S_beginAnew_24 th_c_1 ?_
  refine tq_iadd C dc_S_beginAnew_25 rfl th_l_1 (fun x9 e9 a9 => ?_)
  refine tq_putI C dc_S_beginAnew_26 cl_6 fd_S_56 rfl (show i < 5 from by omega) rfl rfl ?_
  refine th_gen (P := fun J => th_Inv K sl Z J ∧ J = th_u I5 6 i 10 x9) ⟨th_put hI5 (by decide) trivial, rfl⟩ (fun I10 hI10 => ?_)
  obtain ⟨hI10, u10⟩ := hI10
  have e11 : (1 : Int32) = I10 6 i 5 := by rw [u10, th_u_slot (by decide)]; exact e6
  have g11 : (1 : Int32).toInt = (I10 6 i 5).toInt := by rw [← e11]
  have e12 : (0 : Int32) = I10 6 i 6 := by rw [u10, th_u_slot (by decide)]; exact e7
  have g12 : (0 : Int32).toInt = (I10 6 i 6).toInt := by rw [← e12]
  have e13 : (0 : Int32) = I10 6 i 9 := by rw [u10, th_u_slot (by decide)]; exact e5
  have g13 : (0 : Int32).toInt = (I10 6 i 9).toInt := by rw [← e13]
  have e10 : x9 = I10 6 i 10 := by rw [u10, th_u_eq]
  have g10 : x9.toInt = (I10 6 i 10).toInt := by rw [← e10]
  exact th_vret C hQ dc_S_beginAnew_29 (by decide) (by decide) ⟨_, rfl, rfl, hI10, trivial⟩

set_option maxRecDepth 100000 in
set_option maxHeartbeats 4000000 in
theorem c_P_append (l : Launch) (hl : l.stackTraces = false) {K sl : Int} {Z : th_I} (I : th_I) (i : Nat) (a : Int32) (b : Int32) (c : Int32) (hI : th_Inv K sl Z I) (hi : i < 5) (hv : th_valid a.toInt b.toInt c.toInt) : th_F l yn_P_append cb_P_append 4 none { frames := 0, cells := 0, slots := 0, locals := 0 } [.inr (some (7, i)), .inl a, .inl b, .inl c] (th_m I) (th_rv (fun J => th_Inv K sl Z J ∧ ((I 7 i 3).toInt < 24 → (J 7 i 3).toInt = (I 7 i 3).toInt + 1))) := by
  refine th_of hl (by decide +kernel) (Nat.le_of_ble_eq_true rfl) (fun z C hQ hN => ?_)
  show th_G l z 4 0 [(0, .inr (some (7, i))), (1, .inl a), (2, .inl b), (3, .inl c)] [] (th_m I) 0 0
  have hb := hI.2.2.1
  refine th_aload_n C dc_P_append_0 rfl rfl ?_
  refine tq_getI C dc_P_append_1 cl_7 fd_P_21 rfl (show i < 5 from by omega) (fun x1 e1 => ?_)
  have g1 : x1.toInt = (I 7 i 3).toInt := by rw [e1]
  have r1 : 0 ≤ x1.toInt ∧ x1.toInt ≤ 24 := by rw [e1]; exact hI.1 7 i 3
  refine th_bipush (v := 24) C dc_P_append_4 th_b_24 ?_
  refine tq_icmp_ge (tgt := 49) C dc_P_append_6 (by decide) rfl th_l_24 (fun c2 => ?_) (fun c2 => ?_)
  · exact th_vret C hQ dc_P_append_49 (by decide) (by decide) ⟨_, rfl, rfl, hI, fun q => absurd q (by omega)⟩
  · refine th_aload_n C dc_P_append_9 rfl rfl ?_
    refine tq_getR C dc_P_append_10 cl_7 fd_P_9 rfl (show i < 5 from by omega) rfl ?_
    refine th_aload_n C dc_P_append_13 rfl rfl ?_
    refine tq_getIe C dc_P_append_14 cl_7 fd_P_21 rfl (show i < 5 from by omega) e1 ?_
    refine th_iload_n C dc_P_append_17 rfl rfl ?_
    obtain ⟨n3, m3⟩ := th_nat (a := x1.toInt) (by omega)
    refine tq_iastN C dc_P_append_18 rfl (fun _ => rfl) (show i < 5 from by omega) rfl m3 (show n3 < 24 from by omega) ?_
    refine th_gen (P := fun J => J = th_u I 8 i n3 a) rfl (fun I4 u4 => ?_)
    have e5 : x1 = I4 7 i 3 := by rw [u4, th_u_tag (by decide)]; exact e1
    have g5 : x1.toInt = (I4 7 i 3).toInt := by rw [← e5]
    have e4 : a = I4 8 i n3 := by rw [u4, th_u_eq]
    have g4 : a.toInt = (I4 8 i n3).toInt := by rw [← e4]
    refine th_aload_n C dc_P_append_19 rfl rfl ?_
    refine tq_getR C dc_P_append_20 cl_7 fd_P_15 rfl (show i < 5 from by omega) rfl ?_
    refine th_aload_n C dc_P_append_23 rfl rfl ?_
    refine tq_getIe C dc_P_append_24 cl_7 fd_P_21 rfl (show i < 5 from by omega) e5 ?_
    refine th_iload_n C dc_P_append_27 rfl rfl ?_
    refine tq_iastN C dc_P_append_28 rfl (fun _ => rfl) (show i < 5 from by omega) rfl m3 (show n3 < 24 from by omega) ?_
    refine th_gen (P := fun J => J = th_u I4 9 i n3 b) rfl (fun I6 u6 => ?_)
    have e7 : x1 = I6 7 i 3 := by rw [u6, th_u_tag (by decide)]; exact e5
    have g7 : x1.toInt = (I6 7 i 3).toInt := by rw [← e7]
    have e8 : a = I6 8 i n3 := by rw [u6, th_u_tag (by decide)]; exact e4
    have g8 : a.toInt = (I6 8 i n3).toInt := by rw [← e8]
    have e6 : b = I6 9 i n3 := by rw [u6, th_u_eq]
    have g6 : b.toInt = (I6 9 i n3).toInt := by rw [← e6]
    refine th_aload_n C dc_P_append_29 rfl rfl ?_
    refine tq_getR C dc_P_append_30 cl_7 fd_P_18 rfl (show i < 5 from by omega) rfl ?_
    refine th_aload_n C dc_P_append_33 rfl rfl ?_
    refine tq_getIe C dc_P_append_34 cl_7 fd_P_21 rfl (show i < 5 from by omega) e7 ?_
    refine th_iload_n C dc_P_append_37 rfl rfl ?_
    refine tq_iastN C dc_P_append_38 rfl (fun _ => rfl) (show i < 5 from by omega) rfl m3 (show n3 < 24 from by omega) ?_
    refine th_gen (P := fun J => J = th_u I6 10 i n3 c) rfl (fun I9 u9 => ?_)
    have e10 : x1 = I9 7 i 3 := by rw [u9, th_u_tag (by decide)]; exact e7
    have g10 : x1.toInt = (I9 7 i 3).toInt := by rw [← e10]
    have e11 : a = I9 8 i n3 := by rw [u9, th_u_tag (by decide)]; exact e8
    have g11 : a.toInt = (I9 8 i n3).toInt := by rw [← e11]
    have e12 : b = I9 9 i n3 := by rw [u9, th_u_tag (by decide)]; exact e6
    have g12 : b.toInt = (I9 9 i n3).toInt := by rw [← e12]
    have e9 : c = I9 10 i n3 := by rw [u9, th_u_eq]
    have g9 : c.toInt = (I9 10 i n3).toInt := by rw [← e9]
    refine th_aload_n C dc_P_append_39 rfl rfl ?_
    refine th_dup C dc_P_append_40 ?_
    refine tq_getIe C dc_P_append_41 cl_7 fd_P_21 rfl (show i < 5 from by omega) e10 ?_
    refine th_iconst (v := 1) C dc_P_append_44 th_c_1 ?_
    refine tq_iadd C dc_P_append_45 rfl th_l_1 (fun x13 e13 a13 => ?_)
    refine tq_putI C dc_P_append_46 cl_7 fd_P_21 rfl (show i < 5 from by omega) rfl rfl ?_
    refine th_gen (P := fun J => J = th_u I9 7 i 3 x13) rfl (fun I14 u14 => ?_)
    have e15 : a = I14 8 i n3 := by rw [u14, th_u_tag (by decide)]; exact e11
    have g15 : a.toInt = (I14 8 i n3).toInt := by rw [← e15]
    have e16 : b = I14 9 i n3 := by rw [u14, th_u_tag (by decide)]; exact e12
    have g16 : b.toInt = (I14 9 i n3).toInt := by rw [← e16]
    have e17 : c = I14 10 i n3 := by rw [u14, th_u_tag (by decide)]; exact e9
    have g17 : c.toInt = (I14 10 i n3).toInt := by rw [← e17]
    have e14 : x13 = I14 7 i 3 := by rw [u14, th_u_eq]
    have g14 : x13.toInt = (I14 7 i 3).toInt := by rw [← e14]
    exact th_vret C hQ dc_P_append_49 (by decide) (by decide) ⟨_, rfl, rfl, (by rw [u14, u9, u6, u4]; exact th_app hI rfl rfl hv (by omega)), fun _ => (by omega)⟩

set_option maxRecDepth 100000 in
set_option maxHeartbeats 4000000 in
theorem c_Q_latest (l : Launch) (hl : l.stackTraces = false) {K sl : Int} {Z : th_I} (I : th_I) (j : Nat) (s : Int32) (hI : th_Inv K sl Z I) (hj : j < 10) : th_F l yn_Q_latest cb_Q_latest 3 (some .int) { frames := 0, cells := 0, slots := 0, locals := 0 } [.inr (some (11, j)), .inl s] (th_m I) (th_rp I (fun x => -1 ≤ x.toInt ∧ x.toInt < (I 11 j 2).toInt ∧ x.toInt < (th_lp j : Int) ∨ x.toInt = -1)) := by
  refine th_of hl (by decide +kernel) (Nat.le_of_ble_eq_true rfl) (fun z C hQ hN => ?_)
  show th_G l z 3 0 [(0, .inr (some (11, j))), (1, .inl s)] [] (th_m I) 0 0
  have hb := hI.2.2.1
  have hlp := th_lp_le j
  refine th_aload_n C dc_Q_latest_0 rfl rfl ?_
  refine tq_getI C dc_Q_latest_1 cl_11 fd_Q_18 rfl (show j < 10 from by omega) (fun x1 e1 => ?_)
  have g1 : x1.toInt = (I 11 j 2).toInt := by rw [e1]
  have r1 : 0 ≤ x1.toInt ∧ x1.toInt ≤ (th_lp j : Int) := by rw [e1]; exact hI.1 11 j 2
  refine th_iconst (v := 1) C dc_Q_latest_4 th_c_1 ?_
  refine tq_isub C dc_Q_latest_5 rfl th_l_1 (fun x2 e2 a2 => ?_)
  refine th_istore_n (lv' := [(0, .inr (some (11, j))), (1, .inl s), (2, .inl x2)]) C dc_Q_latest_6 rfl (by decide) rfl ?_
  have L7 : ∀ (N : Nat) (k : Int32), (-1 ≤ k.toInt ∧ k.toInt < (I 11 j 2).toInt) → (k.toInt + 1).toNat < N → th_G l z 3 7 [(0, .inr (some (11, j))), (1, .inl s), (2, .inl k)] [] (th_m I) 0 0 := by
    intro N
    induction N with
    | zero => intro k h1 hm; exact absurd hm (Nat.not_lt_zero _)
    | succ N ih =>
      intro k h1 hm
      refine th_iload_n C dc_Q_latest_7 rfl rfl ?_
      refine tq_if_lt (tgt := 29) C dc_Q_latest_8 (by decide) rfl (fun c4 => ?_) (fun c4 => ?_)
      · refine th_iconst (v := -1) C dc_Q_latest_29 th_c_m1 ?_
        exact th_iret C hQ dc_Q_latest_30 (by decide) (by decide) ⟨_, rfl, rfl, (by have := th_l_m1; first | omega | (dsimp only; omega))⟩
      · refine th_aload_n C dc_Q_latest_11 rfl rfl ?_
        refine tq_getR C dc_Q_latest_12 cl_11 fd_Q_9 rfl (show j < 10 from by omega) rfl ?_
        refine th_iload_n C dc_Q_latest_15 rfl rfl ?_
        obtain ⟨n6, m6⟩ := th_nat (a := k.toInt) (by omega)
        refine tq_ialdN C dc_Q_latest_16 rfl (fun _ => rfl) (show j < 10 from by omega) rfl m6 (show n6 < th_lp j from by omega) (fun x5 e5 => ?_)
        have g5 : x5.toInt = (I 12 j n6).toInt := by rw [e5]
        have r5 : 0 ≤ x5.toInt ∧ x5.toInt ≤ 3 := by rw [e5]; exact hI.1 12 j n6
        refine th_iload_n C dc_Q_latest_17 rfl rfl ?_
        refine tq_icmp_ne (tgt := 23) C dc_Q_latest_18 (by decide) rfl rfl (fun c7 => ?_) (fun c7 => ?_)
        · refine tq_iinc (lv' := fun rr => [(0, .inr (some (11, j))), (1, .inl s), (2, .inl rr)]) C dc_Q_latest_23 rfl (by decide) th_c_m1 rfl th_l_m1 (fun rr => rfl) (fun x8 e8 a8 => ?_)
          refine th_goto (tgt := 7) C dc_Q_latest_26 (by decide) ?_
          exact ih x8 (by omega) (by omega)
        · refine th_iload_n C dc_Q_latest_21 rfl rfl ?_
          exact th_iret C hQ dc_Q_latest_22 (by decide) (by decide) ⟨_, rfl, rfl, (by first | omega | (dsimp only; omega))⟩
  exact L7 _ x2 (by omega) (Nat.lt_succ_self _)

set_option maxRecDepth 100000 in
set_option maxHeartbeats 4000000 in
theorem c_H_requireBetween (l : Launch) (hl : l.stackTraces = false) (I : th_I) (v : Int32) (a : Int32) (b : Int32) : th_F l yn_H_requireBetween cb_H_requireBetween 3 none { frames := 6, cells := 1, slots := 6, locals := 89 } [.inl v, .inl a, .inl b] (th_m I) (th_rt I (a.toInt ≤ v.toInt ∧ v.toInt ≤ b.toInt) (fun E => E = th_IAE ∧ ¬ (a.toInt ≤ v.toInt ∧ v.toInt ≤ b.toInt))) := by
  refine th_of hl (by decide +kernel) (Nat.le_of_ble_eq_true rfl) (fun z C hQ hN => ?_)
  show th_G l z 3 0 [(0, .inl v), (1, .inl a), (2, .inl b)] [] (th_m I) 0 0
  refine th_iload_n C dc_H_requireBetween_0 rfl rfl ?_
  refine th_iload_n C dc_H_requireBetween_1 rfl rfl ?_
  refine tq_icmp_lt (tgt := 10) C dc_H_requireBetween_2 (by decide) rfl rfl (fun c1 => ?_) (fun c1 => ?_)
  · exact th_throw C hQ okT_H_143 dc_H_requireBetween_10 dc_H_requireBetween_13 dc_H_requireBetween_14 dc_H_requireBetween_17 (fun _ h => nomatch h) (by decide) (by decide) (by decide) (by decide) (by decide) (by decide) rfl (Or.inr ⟨_, rfl, rfl, rfl, by first | omega | (dsimp only; omega)⟩)
  · refine th_iload_n C dc_H_requireBetween_5 rfl rfl ?_
    refine th_iload_n C dc_H_requireBetween_6 rfl rfl ?_
    refine tq_icmp_le (tgt := 18) C dc_H_requireBetween_7 (by decide) rfl rfl (fun c2 => ?_) (fun c2 => ?_)
    · exact th_vret C hQ dc_H_requireBetween_18 (by decide) (by decide) (Or.inl ⟨rfl, rfl, (by first | omega | (dsimp only; omega))⟩)
    · exact th_throw C hQ okT_H_143 dc_H_requireBetween_10 dc_H_requireBetween_13 dc_H_requireBetween_14 dc_H_requireBetween_17 (fun _ h => nomatch h) (by decide) (by decide) (by decide) (by decide) (by decide) (by decide) rfl (Or.inr ⟨_, rfl, rfl, rfl, by first | omega | (dsimp only; omega)⟩)

set_option maxRecDepth 100000 in
set_option maxHeartbeats 4000000 in
theorem c_H_requireBelow (l : Launch) (hl : l.stackTraces = false) (I : th_I) (v : Int32) (n : Int32) (hn : 0 ≤ n.toInt) : th_F l yn_H_requireBelow cb_H_requireBelow 2 none { frames := 7, cells := 1, slots := 6, locals := 111 } [.inl v, .inl n] (th_m I) (th_rt I (0 ≤ v.toInt ∧ v.toInt < n.toInt) (fun E => E = th_IAE ∧ ¬ (0 ≤ v.toInt ∧ v.toInt < n.toInt))) := by
  refine th_of hl (by decide +kernel) (Nat.le_of_ble_eq_true rfl) (fun z C hQ hN => ?_)
  show th_G l z 2 0 [(0, .inl v), (1, .inl n)] [] (th_m I) 0 0
  have hn2 := th_lt n
  refine th_iload_n C dc_H_requireBelow_0 rfl rfl ?_
  refine th_iconst (v := 0) C dc_H_requireBelow_1 th_c_0 ?_
  refine th_iload_n C dc_H_requireBelow_2 rfl rfl ?_
  refine th_iconst (v := 1) C dc_H_requireBelow_3 th_c_1 ?_
  refine tq_isub C dc_H_requireBelow_4 rfl th_l_1 (fun x1 e1 a1 => ?_)
  refine tq_callSt C (c_H_requireBetween l hl I v ((0 : Int32)) x1) ok_H_86 rfl (by decide) dc_H_requireBelow_5 rfl (fun E pE => th_outX C hQ (fun _ h => nomatch h) (by decide) (by decide) (Or.inr ⟨E, rfl, rfl, pE.1, by have := th_l_0; first | omega | (dsimp only; omega)⟩)) (fun p2 => ?_)
  try simp only [th_l_0] at p2
  exact th_vret C hQ dc_H_requireBelow_8 (by decide) (by decide) (Or.inl ⟨rfl, rfl, (by first | omega | (dsimp only; omega))⟩)

set_option maxRecDepth 100000 in
set_option maxHeartbeats 4000000 in
theorem c_H_requireOperand (l : Launch) (hl : l.stackTraces = false) (I : th_I) (v : Int32) (n : Int32) : th_F l yn_H_requireOperand cb_H_requireOperand 2 none { frames := 8, cells := 1, slots := 6, locals := 132 } [.inl v, .inl n] (th_m I) (th_rt I (0 < n.toInt → 0 ≤ v.toInt ∧ v.toInt < n.toInt) (fun E => E = th_IAE ∧ 0 < n.toInt ∧ ¬ (0 ≤ v.toInt ∧ v.toInt < n.toInt))) := by
  refine th_of hl (by decide +kernel) (Nat.le_of_ble_eq_true rfl) (fun z C hQ hN => ?_)
  show th_G l z 2 0 [(0, .inl v), (1, .inl n)] [] (th_m I) 0 0
  refine th_iload_n C dc_H_requireOperand_0 rfl rfl ?_
  refine tq_if_le (tgt := 9) C dc_H_requireOperand_1 (by decide) rfl (fun c1 => ?_) (fun c1 => ?_)
  · exact th_vret C hQ dc_H_requireOperand_9 (by decide) (by decide) (Or.inl ⟨rfl, rfl, (by first | omega | (dsimp only; omega))⟩)
  · refine th_iload_n C dc_H_requireOperand_4 rfl rfl ?_
    refine th_iload_n C dc_H_requireOperand_5 rfl rfl ?_
    refine tq_callSt C (c_H_requireBelow l hl I v n (by omega)) ok_H_46 rfl (by decide) dc_H_requireOperand_6 rfl (fun E pE => th_outX C hQ (fun _ h => nomatch h) (by decide) (by decide) (Or.inr ⟨E, rfl, rfl, pE.1, by first | omega | (dsimp only; omega)⟩)) (fun p2 => ?_)
    exact th_vret C hQ dc_H_requireOperand_9 (by decide) (by decide) (Or.inl ⟨rfl, rfl, (by first | omega | (dsimp only; omega))⟩)

set_option maxRecDepth 100000 in
set_option maxHeartbeats 4000000 in
theorem c_H_requireNotAlive (l : Launch) (hl : l.stackTraces = false) (I : th_I) (i : Nat) (hi : i < 5) : th_F l yn_H_requireNotAlive cb_H_requireNotAlive 1 none { frames := 6, cells := 1, slots := 6, locals := 89 } [.inr (some (6, i))] (th_m I) (th_rt I ((I 6 i 5).toInt = 0 ∨ (I 6 i 5).toInt = 5) (fun E => E = th_ISE ∧ (I 6 i 5).toInt ≠ 0 ∧ (I 6 i 5).toInt ≠ 5)) := by
  refine th_of hl (by decide +kernel) (Nat.le_of_ble_eq_true rfl) (fun z C hQ hN => ?_)
  show th_G l z 1 0 [(0, .inr (some (6, i)))] [] (th_m I) 0 0
  refine th_aload_n C dc_H_requireNotAlive_0 rfl rfl ?_
  refine tq_callVp C (c_S_isAlive l hl I i (by omega)) ok_H_79 cl_6 (show i < 5 from by omega) rfl (by decide) dc_H_requireNotAlive_1 rfl (fun x1 p1 => ?_)
  refine tq_if_eq (tgt := 15) C dc_H_requireNotAlive_4 (by decide) rfl (fun c2 => ?_) (fun c2 => ?_)
  · exact th_vret C hQ dc_H_requireNotAlive_15 (by decide) (by decide) (Or.inl ⟨rfl, rfl, (by first | omega | (dsimp only; omega))⟩)
  · exact th_throw C hQ okT_H_173 dc_H_requireNotAlive_7 dc_H_requireNotAlive_10 dc_H_requireNotAlive_11 dc_H_requireNotAlive_14 (fun _ h => nomatch h) (by decide) (by decide) (by decide) (by decide) (by decide) (by decide) rfl (Or.inr ⟨_, rfl, rfl, rfl, by first | omega | (dsimp only; omega)⟩)
end
section
set_option maxRecDepth 100000 in
set_option maxHeartbeats 4000000 in
theorem p_H_nextReady (l : Launch) (hl : l.stackTraces = false) : th_F l yn_H_nextReady cb_H_nextReady 3 (some .int) { frames := 0, cells := 0, slots := 0, locals := 0 } [.inr (some (0, 0))] (th_m th_I0) (th_rp th_I0 (fun x => x.toInt = -1)) := by
  refine th_of hl (by decide +kernel) (Nat.le_of_ble_eq_true rfl) (fun z C hQ hN => ?_)
  show th_G l z 3 0 [(0, .inr (some (0, 0)))] [] (th_m th_I0) 0 0
  refine th_iconst (v := 1) C dc_H_nextReady_0 th_c_1 ?_
  refine th_istore_n (lv' := [(0, .inr (some (0, 0))), (1, .inl ((1 : Int32)))]) C dc_H_nextReady_1 rfl (by decide) rfl ?_
  have L2 : ∀ (N : Nat) (k : Int32), (1 ≤ k.toInt ∧ k.toInt ≤ 6) → (6 - k.toInt).toNat < N → th_G l z 3 2 [(0, .inr (some (0, 0))), (1, .inl k)] [] (th_m th_I0) 0 0 := by
    intro N
    induction N with
    | zero => intro k h1 hm; exact absurd hm (Nat.not_lt_zero _)
    | succ N ih =>
      intro k h1 hm
      refine th_iload_n C dc_H_nextReady_2 rfl rfl ?_
      refine th_iconst (v := 5) C dc_H_nextReady_3 th_c_5 ?_
      refine tq_icmp_gt (tgt := 37) C dc_H_nextReady_4 (by decide) rfl th_l_5 (fun c2 => ?_) (fun c2 => ?_)
      · refine th_iconst (v := -1) C dc_H_nextReady_37 th_c_m1 ?_
        exact th_iret C hQ dc_H_nextReady_38 (by decide) (by decide) ⟨_, rfl, rfl, (by have := th_l_m1; first | omega | (dsimp only; omega))⟩
      · refine th_aload_n C dc_H_nextReady_7 rfl rfl ?_
        have e3 : (-1 : Int32) = th_I0 0 0 7 := rfl
        refine tq_getIe C dc_H_nextReady_8 cl_0 fd_H_43 rfl (show 0 < 1 from by omega) e3 ?_
        refine th_iload_n C dc_H_nextReady_11 rfl rfl ?_
        refine tq_iadd C dc_H_nextReady_12 th_l_m1 rfl (fun x4 e4 a4 => ?_)
        refine th_iconst (v := 5) C dc_H_nextReady_13 th_c_5 ?_
        refine th_irem C dc_H_nextReady_14 (by decide) ?_
        obtain ⟨x5, e5⟩ : ∃ r : Int32, r = x4 - x4 / (5 : Int32) * (5 : Int32) := ⟨_, rfl⟩
        rw [← e5]
        have a5 := th_rem5 (x := x4) (by omega) (by omega)
        rw [← e5] at a5
        refine th_istore_n (lv' := [(0, .inr (some (0, 0))), (1, .inl k), (2, .inl x5)]) C dc_H_nextReady_15 rfl (by decide) rfl ?_
        refine th_aload_n C dc_H_nextReady_16 rfl rfl ?_
        refine tq_getR C dc_H_nextReady_17 cl_0 fd_H_11 rfl (show 0 < 1 from by omega) rfl ?_
        refine th_iload_n C dc_H_nextReady_20 rfl rfl ?_
        obtain ⟨n6, m6⟩ := th_nat (a := x5.toInt) (by omega)
        refine tq_aaldN C dc_H_nextReady_21 rfl (fun _ => rfl) (show 0 < 1 from by omega) rfl m6 (show n6 < 5 from by omega) (fun _ => rfl) ?_
        have e7 : (0 : Int32) = th_I0 6 n6 5 := rfl
        refine tq_getIe C dc_H_nextReady_22 cl_6 fd_H_106 rfl (show n6 < 5 from by omega) e7 ?_
        refine th_iconst (v := 1) C dc_H_nextReady_25 th_c_1 ?_
        refine tq_icmp_ne (tgt := 31) C dc_H_nextReady_26 (by decide) th_l_0 th_l_1 (fun c8 => ?_) (fun c8 => ?_)
        · refine tq_iinc (lv' := fun rr => [(0, .inr (some (0, 0))), (1, .inl rr), (2, .inl x5)]) C dc_H_nextReady_31 rfl (by decide) th_c_1 rfl th_l_1 (fun rr => rfl) (fun x9 e9 a9 => ?_)
          refine th_goto (tgt := 2) C dc_H_nextReady_34 (by decide) ?_
          refine th_sub C (lv' := [(0, .inr (some (0, 0))), (1, .inl x9)]) (fun q hq => by simp at hq ⊢; rcases hq with rfl | rfl <;> simp) ?_
          exact ih x9 (by omega) (by omega)
        · exact absurd c8 (by decide)
  exact L2 _ ((1 : Int32)) (by have := th_l_1; omega) (Nat.lt_succ_self _)

set_option maxRecDepth 100000 in
set_option maxHeartbeats 4000000 in
theorem p_H_aliveCount (l : Launch) (hl : l.stackTraces = false) : th_F l yn_H_aliveCount cb_H_aliveCount 3 (some .int) { frames := 1, cells := 0, slots := 0, locals := 20 } [.inr (some (0, 0))] (th_m th_I0) (th_rp th_I0 (fun x => x.toInt = 0)) := by
  refine th_of hl (by decide +kernel) (Nat.le_of_ble_eq_true rfl) (fun z C hQ hN => ?_)
  show th_G l z 3 0 [(0, .inr (some (0, 0)))] [] (th_m th_I0) 0 0
  refine th_iconst (v := 0) C dc_H_aliveCount_0 th_c_0 ?_
  refine th_istore_n (lv' := [(0, .inr (some (0, 0))), (1, .inl ((0 : Int32)))]) C dc_H_aliveCount_1 rfl (by decide) rfl ?_
  refine th_iconst (v := 0) C dc_H_aliveCount_2 th_c_0 ?_
  refine th_istore_n (lv' := [(0, .inr (some (0, 0))), (1, .inl ((0 : Int32))), (2, .inl ((0 : Int32)))]) C dc_H_aliveCount_3 rfl (by decide) rfl ?_
  have L4 : ∀ (N : Nat) (k : Int32), (0 ≤ k.toInt ∧ k.toInt ≤ 5) → (5 - k.toInt).toNat < N → th_G l z 3 4 [(0, .inr (some (0, 0))), (1, .inl ((0 : Int32))), (2, .inl k)] [] (th_m th_I0) 0 0 := by
    intro N
    induction N with
    | zero => intro k h1 hm; exact absurd hm (Nat.not_lt_zero _)
    | succ N ih =>
      intro k h1 hm
      refine th_iload_n C dc_H_aliveCount_4 rfl rfl ?_
      refine th_iconst (v := 5) C dc_H_aliveCount_5 th_c_5 ?_
      refine tq_icmp_ge (tgt := 30) C dc_H_aliveCount_6 (by decide) rfl th_l_5 (fun c2 => ?_) (fun c2 => ?_)
      · refine th_iload_n C dc_H_aliveCount_30 rfl rfl ?_
        exact th_iret C hQ dc_H_aliveCount_31 (by decide) (by decide) ⟨_, rfl, rfl, (by have := th_l_0; first | omega | (dsimp only; omega))⟩
      · refine th_aload_n C dc_H_aliveCount_9 rfl rfl ?_
        refine tq_getR C dc_H_aliveCount_10 cl_0 fd_H_11 rfl (show 0 < 1 from by omega) rfl ?_
        refine th_iload_n C dc_H_aliveCount_13 rfl rfl ?_
        obtain ⟨n3, m3⟩ := th_nat (a := k.toInt) (by omega)
        refine tq_aaldN C dc_H_aliveCount_14 rfl (fun _ => rfl) (show 0 < 1 from by omega) rfl m3 (show n3 < 5 from by omega) (fun _ => rfl) ?_
        refine tq_callVp C (c_S_isAlive l hl th_I0 n3 (by omega)) ok_H_79 cl_6 (show n3 < 5 from by omega) rfl (by decide) dc_H_aliveCount_15 rfl (fun x4 p4 => ?_)
        have zz4 : (th_I0 6 n3 5).toInt = 0 := th_l_0
        refine tq_if_eq (tgt := 24) C dc_H_aliveCount_18 (by decide) rfl (fun c5 => ?_) (fun c5 => ?_)
        · refine tq_iinc (lv' := fun rr => [(0, .inr (some (0, 0))), (1, .inl ((0 : Int32))), (2, .inl rr)]) C dc_H_aliveCount_24 rfl (by decide) th_c_1 rfl th_l_1 (fun rr => rfl) (fun x6 e6 a6 => ?_)
          refine th_goto (tgt := 4) C dc_H_aliveCount_27 (by decide) ?_
          exact ih x6 (by omega) (by omega)
        · exact absurd c5 (by omega)
  exact L4 _ ((0 : Int32)) (by have := th_l_0; omega) (Nat.lt_succ_self _)

set_option maxRecDepth 100000 in
set_option maxHeartbeats 4000000 in
theorem p_H_readyCount (l : Launch) (hl : l.stackTraces = false) : th_F l yn_H_readyCount cb_H_readyCount 3 (some .int) { frames := 0, cells := 0, slots := 0, locals := 0 } [.inr (some (0, 0))] (th_m th_I0) (th_rp th_I0 (fun x => x.toInt = 0)) := by
  refine th_of hl (by decide +kernel) (Nat.le_of_ble_eq_true rfl) (fun z C hQ hN => ?_)
  show th_G l z 3 0 [(0, .inr (some (0, 0)))] [] (th_m th_I0) 0 0
  refine th_iconst (v := 0) C dc_H_readyCount_0 th_c_0 ?_
  refine th_istore_n (lv' := [(0, .inr (some (0, 0))), (1, .inl ((0 : Int32)))]) C dc_H_readyCount_1 rfl (by decide) rfl ?_
  refine th_iconst (v := 0) C dc_H_readyCount_2 th_c_0 ?_
  refine th_istore_n (lv' := [(0, .inr (some (0, 0))), (1, .inl ((0 : Int32))), (2, .inl ((0 : Int32)))]) C dc_H_readyCount_3 rfl (by decide) rfl ?_
  have L4 : ∀ (N : Nat) (k : Int32), (0 ≤ k.toInt ∧ k.toInt ≤ 5) → (5 - k.toInt).toNat < N → th_G l z 3 4 [(0, .inr (some (0, 0))), (1, .inl ((0 : Int32))), (2, .inl k)] [] (th_m th_I0) 0 0 := by
    intro N
    induction N with
    | zero => intro k h1 hm; exact absurd hm (Nat.not_lt_zero _)
    | succ N ih =>
      intro k h1 hm
      refine th_iload_n C dc_H_readyCount_4 rfl rfl ?_
      refine th_iconst (v := 5) C dc_H_readyCount_5 th_c_5 ?_
      refine tq_icmp_ge (tgt := 31) C dc_H_readyCount_6 (by decide) rfl th_l_5 (fun c2 => ?_) (fun c2 => ?_)
      · refine th_iload_n C dc_H_readyCount_31 rfl rfl ?_
        exact th_iret C hQ dc_H_readyCount_32 (by decide) (by decide) ⟨_, rfl, rfl, (by have := th_l_0; first | omega | (dsimp only; omega))⟩
      · refine th_aload_n C dc_H_readyCount_9 rfl rfl ?_
        refine tq_getR C dc_H_readyCount_10 cl_0 fd_H_11 rfl (show 0 < 1 from by omega) rfl ?_
        refine th_iload_n C dc_H_readyCount_13 rfl rfl ?_
        obtain ⟨n3, m3⟩ := th_nat (a := k.toInt) (by omega)
        refine tq_aaldN C dc_H_readyCount_14 rfl (fun _ => rfl) (show 0 < 1 from by omega) rfl m3 (show n3 < 5 from by omega) (fun _ => rfl) ?_
        have e4 : (0 : Int32) = th_I0 6 n3 5 := rfl
        refine tq_getIe C dc_H_readyCount_15 cl_6 fd_H_106 rfl (show n3 < 5 from by omega) e4 ?_
        refine th_iconst (v := 1) C dc_H_readyCount_18 th_c_1 ?_
        refine tq_icmp_ne (tgt := 25) C dc_H_readyCount_19 (by decide) th_l_0 th_l_1 (fun c5 => ?_) (fun c5 => ?_)
        · refine tq_iinc (lv' := fun rr => [(0, .inr (some (0, 0))), (1, .inl ((0 : Int32))), (2, .inl rr)]) C dc_H_readyCount_25 rfl (by decide) th_c_1 rfl th_l_1 (fun rr => rfl) (fun x6 e6 a6 => ?_)
          refine th_goto (tgt := 4) C dc_H_readyCount_28 (by decide) ?_
          exact ih x6 (by omega) (by omega)
        · exact absurd c5 (by decide)
  exact L4 _ ((0 : Int32)) (by have := th_l_0; omega) (Nat.lt_succ_self _)

set_option maxRecDepth 100000 in
set_option maxHeartbeats 4000000 in
theorem p_H_read (l : Launch) (hl : l.stackTraces = false) (i : Nat) (s : Int32) (hi : i < 5) (hs : 0 ≤ s.toInt ∧ s.toInt ≤ 3) : th_F l yn_H_read cb_H_read 4 (some .int) { frames := 1, cells := 0, slots := 0, locals := 22 } [.inr (some (0, 0)), .inr (some (6, i)), .inl s] (th_m th_I0) (th_rp th_I0 (fun x => x.toInt = 0)) := by
  refine th_of hl (by decide +kernel) (Nat.le_of_ble_eq_true rfl) (fun z C hQ hN => ?_)
  show th_G l z 4 0 [(0, .inr (some (0, 0))), (1, .inr (some (6, i))), (2, .inl s)] [] (th_m th_I0) 0 0
  refine th_aload_n C dc_H_read_0 rfl rfl ?_
  refine tq_getR C dc_H_read_1 cl_6 fd_H_115 rfl (show i < 5 from by omega) rfl ?_
  refine th_iload_n C dc_H_read_4 rfl rfl ?_
  refine tq_callVp C (c_Q_latest l hl th_I0 (2 * i) s hth_I0 (by omega)) ok_H_251 cl_11 (show 2 * i < 10 from by omega) rfl (by decide) dc_H_read_5 rfl (fun x1 p1 => ?_)
  have zz1 : (th_I0 11 (2 * i) 2).toInt = 0 := th_l_0
  refine th_istore_n (lv' := [(0, .inr (some (0, 0))), (1, .inr (some (6, i))), (2, .inl s), (3, .inl x1)]) C dc_H_read_8 rfl (by decide) rfl ?_
  refine th_iload_n C dc_H_read_9 rfl rfl ?_
  refine th_iconst (v := -1) C dc_H_read_10 th_c_m1 ?_
  refine tq_icmp_ne (tgt := 23) C dc_H_read_11 (by decide) rfl th_l_m1 (fun c2 => ?_) (fun c2 => ?_)
  · exact absurd c2 (by omega)
  · refine th_aload_n C dc_H_read_14 rfl rfl ?_
    refine tq_getR C dc_H_read_15 cl_0 fd_H_32 rfl (show 0 < 1 from by omega) rfl ?_
    refine th_iload_n C dc_H_read_18 rfl rfl ?_
    obtain ⟨n4, m4⟩ := th_nat (a := s.toInt) (by omega)
    have e3 : (0 : Int32) = th_I0 4 0 n4 := rfl
    refine tq_ialdE C dc_H_read_19 rfl (fun _ => rfl) (show 0 < 1 from by omega) rfl m4 (show n4 < 4 from by omega) e3 ?_
    refine th_goto (tgt := 32) C dc_H_read_20 (by decide) ?_
    exact th_iret C hQ dc_H_read_32 (by decide) (by decide) ⟨_, rfl, rfl, (by have := th_l_0; first | omega | (dsimp only; omega))⟩

set_option maxRecDepth 100000 in
set_option maxHeartbeats 4000000 in
theorem p_H_add (l : Launch) (hl : l.stackTraces = false) (t : Int32) (o : Int32) (a : Int32) (b : Int32) : th_F l yn_H_add cb_H_add 6 (some .int) { frames := 9, cells := 6, slots := 36, locals := 153 } [.inr (some (0, 0)), .inl t, .inl o, .inl a, .inl b] (th_m th_I0) (th_rm (fun x J => ((0 ≤ t.toInt ∧ t.toInt ≤ 4 ∧ th_valid o.toInt a.toInt b.toInt) ∧ x.toInt = 1) ∧ ∀ t i k, 17 ≤ t → J t i k = th_I0 t i k) (fun E J => (E = th_IAE ∧ ¬ (0 ≤ t.toInt ∧ t.toInt ≤ 4 ∧ th_valid o.toInt a.toInt b.toInt)) ∧ ∀ t i k, 17 ≤ t → J t i k = th_I0 t i k)) := by
  refine th_of hl (by decide +kernel) (Nat.le_of_ble_eq_true rfl) (fun z C hQ hN => ?_)
  show th_G l z 6 0 [(0, .inr (some (0, 0))), (1, .inl t), (2, .inl o), (3, .inl a), (4, .inl b)] [] (th_m th_I0) 0 0
  refine th_iload_n C dc_H_add_0 rfl rfl ?_
  refine th_iconst (v := 5) C dc_H_add_1 th_c_5 ?_
  refine tq_callSt C (c_H_requireBelow l hl th_I0 t ((5 : Int32)) (by have := th_l_5; omega)) ok_H_46 rfl (by decide) dc_H_add_2 rfl (fun E pE => th_outX C hQ (fun _ h => nomatch h) (by decide) (by decide) (Or.inr ⟨E, _, rfl, rfl, ⟨pE.1, fun q => by have := th_l_5; omega⟩, fun _ _ _ _ => rfl⟩)) (fun p1 => ?_)
  try simp only [th_l_5] at p1
  refine th_iload_n C dc_H_add_5 rfl rfl ?_
  refine th_gets (q := th_s91) C dc_H_add_6 th_s91_in sl_H_50 ?_
  refine th_slen (q := th_s91) (v := 21) C dc_H_add_9 th_s91_in rfl ?_
  refine tq_callSt C (c_H_requireBelow l hl th_I0 o ((21 : Int32)) (by have := th_l_21; omega)) ok_H_46 rfl (by decide) dc_H_add_10 rfl (fun E pE => th_outX C hQ (fun _ h => nomatch h) (by decide) (by decide) (Or.inr ⟨E, _, rfl, rfl, ⟨pE.1, fun q => by have := th_l_21; have := q.2.2.1; omega⟩, fun _ _ _ _ => rfl⟩)) (fun p2 => ?_)
  try simp only [th_l_21] at p2
  refine th_iload_n C dc_H_add_13 rfl rfl ?_
  refine th_gets (q := th_s91) C dc_H_add_14 th_s91_in sl_H_50 ?_
  refine th_iload_n C dc_H_add_17 rfl rfl ?_
  refine th_sld (q := th_s91) C dc_H_add_18 th_s91_in rfl (by omega) (show o.toInt < ((21 : Nat) : Int) from by omega) (fun n3 x3 m3 q3 e3 => ?_)
  have q3 : n3 < 21 := q3
  refine tq_callSt C (c_H_requireOperand l hl th_I0 a x3) ok_H_53 rfl (by decide) dc_H_add_19 rfl (fun E pE => th_outX C hQ (fun _ h => nomatch h) (by decide) (by decide) (Or.inr ⟨E, _, rfl, rfl, ⟨pE.1, fun q => absurd (th_val_a (by omega) m3 e3 q.2.2 (by omega)) (by omega)⟩, fun _ _ _ _ => rfl⟩)) (fun p4 => ?_)
  refine th_iload C dc_H_add_22 rfl ?_
  refine th_gets (q := th_s92) C dc_H_add_24 th_s92_in sl_H_56 ?_
  refine th_iload_n C dc_H_add_27 rfl rfl ?_
  refine th_sld (q := th_s92) C dc_H_add_28 th_s92_in rfl (by omega) (show o.toInt < ((21 : Nat) : Int) from by omega) (fun n5 x5 m5 q5 e5 => ?_)
  have q5 : n5 < 21 := q5
  refine tq_callSt C (c_H_requireOperand l hl th_I0 b x5) ok_H_53 rfl (by decide) dc_H_add_29 rfl (fun E pE => th_outX C hQ (fun _ h => nomatch h) (by decide) (by decide) (Or.inr ⟨E, _, rfl, rfl, ⟨pE.1, fun q => absurd (th_val_b (by omega) m5 e5 q.2.2 (by omega)) (by omega)⟩, fun _ _ _ _ => rfl⟩)) (fun p6 => ?_)
  refine th_aload_n C dc_H_add_32 rfl rfl ?_
  refine tq_getR C dc_H_add_33 cl_0 fd_H_11 rfl (show 0 < 1 from by omega) rfl ?_
  refine th_iload_n C dc_H_add_36 rfl rfl ?_
  obtain ⟨n7, m7⟩ := th_nat (a := t.toInt) (by omega)
  refine tq_aaldN C dc_H_add_37 rfl (fun _ => rfl) (show 0 < 1 from by omega) rfl m7 (show n7 < 5 from by omega) (fun _ => rfl) ?_
  refine tq_callSt C (c_H_requireNotAlive l hl th_I0 n7 (by omega)) ok_H_59 rfl (by decide) dc_H_add_38 rfl (fun E pE => absurd (show (th_I0 6 n7 5).toInt = 0 from th_l_0) pE.2.1) (fun p8 => ?_)
  have zz8 : (th_I0 6 n7 5).toInt = 0 := th_l_0
  refine th_aload_n C dc_H_add_41 rfl rfl ?_
  refine tq_getR C dc_H_add_42 cl_0 fd_H_11 rfl (show 0 < 1 from by omega) rfl ?_
  refine th_iload_n C dc_H_add_45 rfl rfl ?_
  refine tq_aaldN C dc_H_add_46 rfl (fun _ => rfl) (show 0 < 1 from by omega) rfl m7 (show n7 < 5 from by omega) (fun _ => rfl) ?_
  refine tq_getR C dc_H_add_47 cl_6 fd_H_63 rfl (show n7 < 5 from by omega) rfl ?_
  refine th_astore (lv' := [(0, .inr (some (0, 0))), (1, .inl t), (2, .inl o), (3, .inl a), (4, .inl b), (5, .inr (some (7, n7)))]) C dc_H_add_50 (by decide) rfl ?_
  refine th_aload C dc_H_add_52 rfl ?_
  have e9 : (0 : Int32) = th_I0 7 n7 3 := rfl
  refine tq_getIe C dc_H_add_54 cl_7 fd_H_67 rfl (show n7 < 5 from by omega) e9 ?_
  refine th_bipush (v := 24) C dc_H_add_57 th_b_24 ?_
  refine tq_icmp_lt (tgt := 70) C dc_H_add_59 (by decide) th_l_0 th_l_24 (fun c10 => ?_) (fun c10 => ?_)
  · refine th_aload C dc_H_add_70 rfl ?_
    refine th_iload_n C dc_H_add_72 rfl rfl ?_
    refine th_iload_n C dc_H_add_73 rfl rfl ?_
    refine th_iload C dc_H_add_74 rfl ?_
    refine tq_callVv C (c_P_append l hl th_I0 n7 o a b hth_I0 (by omega) (th_val_of (by omega) (by omega) m3 e3 m5 e5 p4 p6)) ok_H_75 cl_7 (show n7 < 5 from by omega) rfl (by decide) dc_H_add_76 rfl (fun I11 p11 => ?_)
    obtain ⟨hI11, p11⟩ := p11
    have zz11 : (th_I0 7 n7 3).toInt = 0 := th_l_0
    refine th_aload C dc_H_add_79 rfl ?_
    refine tq_getI C dc_H_add_81 cl_7 fd_H_67 rfl (show n7 < 5 from by omega) (fun x12 e12 => ?_)
    have g12 : x12.toInt = (I11 7 n7 3).toInt := by rw [e12]
    exact th_iret C hQ dc_H_add_84 (by decide) (by decide) (Or.inl ⟨_, _, rfl, rfl, ⟨⟨by omega, by omega, th_val_of (by omega) (by omega) m3 e3 m5 e5 p4 p6⟩, by first | omega | (dsimp only; omega)⟩, hI11.2.2.2⟩)
  · exact absurd c10 (by decide)

set_option maxRecDepth 100000 in
set_option maxHeartbeats 4000000 in
theorem p_H_clear (l : Launch) (hl : l.stackTraces = false) (t : Int32) : th_F l yn_H_clear cb_H_clear 3 (some .int) { frames := 8, cells := 2, slots := 12, locals := 132 } [.inr (some (0, 0)), .inl t] (th_m th_I0) (th_rm (fun x J => ((0 ≤ t.toInt ∧ t.toInt ≤ 4) ∧ x.toInt = 0) ∧ ∀ t i k, 17 ≤ t → J t i k = th_I0 t i k) (fun E J => (E = th_IAE ∧ ¬ (0 ≤ t.toInt ∧ t.toInt ≤ 4)) ∧ ∀ t i k, 17 ≤ t → J t i k = th_I0 t i k)) := by
  refine th_of hl (by decide +kernel) (Nat.le_of_ble_eq_true rfl) (fun z C hQ hN => ?_)
  show th_G l z 3 0 [(0, .inr (some (0, 0))), (1, .inl t)] [] (th_m th_I0) 0 0
  refine th_iload_n C dc_H_clear_0 rfl rfl ?_
  refine th_iconst (v := 5) C dc_H_clear_1 th_c_5 ?_
  refine tq_callSt C (c_H_requireBelow l hl th_I0 t ((5 : Int32)) (by have := th_l_5; omega)) ok_H_46 rfl (by decide) dc_H_clear_2 rfl (fun E pE => th_outX C hQ (fun _ h => nomatch h) (by decide) (by decide) (Or.inr ⟨E, _, rfl, rfl, ⟨pE.1, fun q => by have := th_l_5; omega⟩, fun _ _ _ _ => rfl⟩)) (fun p1 => ?_)
  try simp only [th_l_5] at p1
  refine th_aload_n C dc_H_clear_5 rfl rfl ?_
  refine tq_getR C dc_H_clear_6 cl_0 fd_H_11 rfl (show 0 < 1 from by omega) rfl ?_
  refine th_iload_n C dc_H_clear_9 rfl rfl ?_
  obtain ⟨n2, m2⟩ := th_nat (a := t.toInt) (by omega)
  refine tq_aaldN C dc_H_clear_10 rfl (fun _ => rfl) (show 0 < 1 from by omega) rfl m2 (show n2 < 5 from by omega) (fun _ => rfl) ?_
  refine tq_callSt C (c_H_requireNotAlive l hl th_I0 n2 (by omega)) ok_H_59 rfl (by decide) dc_H_clear_11 rfl (fun E pE => absurd (show (th_I0 6 n2 5).toInt = 0 from th_l_0) pE.2.1) (fun p3 => ?_)
  have zz3 : (th_I0 6 n2 5).toInt = 0 := th_l_0
  refine th_aload_n C dc_H_clear_14 rfl rfl ?_
  refine tq_getR C dc_H_clear_15 cl_0 fd_H_11 rfl (show 0 < 1 from by omega) rfl ?_
  refine th_iload_n C dc_H_clear_18 rfl rfl ?_
  refine tq_aaldN C dc_H_clear_19 rfl (fun _ => rfl) (show 0 < 1 from by omega) rfl m2 (show n2 < 5 from by omega) (fun _ => rfl) ?_
  refine tq_getR C dc_H_clear_20 cl_6 fd_H_63 rfl (show n2 < 5 from by omega) rfl ?_
  have e4 : (0 : Int32) = th_I0 7 n2 3 := rfl
  refine tq_getIe C dc_H_clear_23 cl_7 fd_H_67 rfl (show n2 < 5 from by omega) e4 ?_
  refine th_istore_n (lv' := [(0, .inr (some (0, 0))), (1, .inl t), (2, .inl ((0 : Int32)))]) C dc_H_clear_26 rfl (by decide) rfl ?_
  refine th_aload_n C dc_H_clear_27 rfl rfl ?_
  refine tq_getR C dc_H_clear_28 cl_0 fd_H_11 rfl (show 0 < 1 from by omega) rfl ?_
  refine th_iload_n C dc_H_clear_31 rfl rfl ?_
  refine tq_aaldN C dc_H_clear_32 rfl (fun _ => rfl) (show 0 < 1 from by omega) rfl m2 (show n2 < 5 from by omega) (fun _ => rfl) ?_
  refine tq_getR C dc_H_clear_33 cl_6 fd_H_63 rfl (show n2 < 5 from by omega) rfl ?_
  refine th_iconst (v := 0) C dc_H_clear_36 th_c_0 ?_
  refine tq_putI C dc_H_clear_37 cl_7 fd_H_67 rfl (show n2 < 5 from by omega) rfl rfl ?_
  refine th_gen (P := fun J => J = th_u th_I0 7 n2 3 ((0 : Int32))) rfl (fun I5 u5 => ?_)
  have e5 : (0 : Int32) = I5 7 n2 3 := by rw [u5, th_u_eq]
  have g5 : 0 = (I5 7 n2 3).toInt := by rw [← e5]; exact th_l_0.symm
  refine th_iload_n C dc_H_clear_40 rfl rfl ?_
  exact th_iret C hQ dc_H_clear_41 (by decide) (by decide) (Or.inl ⟨_, _, rfl, rfl, ⟨by omega, by have := th_l_0; first | omega | (dsimp only; omega)⟩, fun t i k q => by rw [u5, th_u_tag (by omega)]⟩)

set_option maxRecDepth 100000 in
set_option maxHeartbeats 4000000 in
theorem p_H_start (l : Launch) (hl : l.stackTraces = false) (t : Int32) : th_F l yn_H_start cb_H_start 2 (some .int) { frames := 8, cells := 1, slots := 6, locals := 132 } [.inr (some (0, 0)), .inl t] (th_m th_I0) (th_rm (fun x J => ((0 ≤ t.toInt ∧ t.toInt ≤ 4) ∧ x.toInt = 1) ∧ ∀ t i k, 17 ≤ t → J t i k = th_I0 t i k) (fun E J => (E = th_IAE ∧ ¬ (0 ≤ t.toInt ∧ t.toInt ≤ 4)) ∧ ∀ t i k, 17 ≤ t → J t i k = th_I0 t i k)) := by
  refine th_of hl (by decide +kernel) (Nat.le_of_ble_eq_true rfl) (fun z C hQ hN => ?_)
  show th_G l z 2 0 [(0, .inr (some (0, 0))), (1, .inl t)] [] (th_m th_I0) 0 0
  refine th_iload_n C dc_H_start_0 rfl rfl ?_
  refine th_iconst (v := 5) C dc_H_start_1 th_c_5 ?_
  refine tq_callSt C (c_H_requireBelow l hl th_I0 t ((5 : Int32)) (by have := th_l_5; omega)) ok_H_46 rfl (by decide) dc_H_start_2 rfl (fun E pE => th_outX C hQ (fun _ h => nomatch h) (by decide) (by decide) (Or.inr ⟨E, _, rfl, rfl, ⟨pE.1, fun q => by have := th_l_5; omega⟩, fun _ _ _ _ => rfl⟩)) (fun p1 => ?_)
  try simp only [th_l_5] at p1
  refine th_aload_n C dc_H_start_5 rfl rfl ?_
  refine tq_getR C dc_H_start_6 cl_0 fd_H_11 rfl (show 0 < 1 from by omega) rfl ?_
  refine th_iload_n C dc_H_start_9 rfl rfl ?_
  obtain ⟨n2, m2⟩ := th_nat (a := t.toInt) (by omega)
  refine tq_aaldN C dc_H_start_10 rfl (fun _ => rfl) (show 0 < 1 from by omega) rfl m2 (show n2 < 5 from by omega) (fun _ => rfl) ?_
  refine tq_callVp C (c_S_isAlive l hl th_I0 n2 (by omega)) ok_H_79 cl_6 (show n2 < 5 from by omega) rfl (by decide) dc_H_start_11 rfl (fun x3 p3 => ?_)
  have zz3 : (th_I0 6 n2 5).toInt = 0 := th_l_0
  refine tq_if_eq (tgt := 19) C dc_H_start_14 (by decide) rfl (fun c4 => ?_) (fun c4 => ?_)
  · refine th_aload_n C dc_H_start_19 rfl rfl ?_
    refine tq_getR C dc_H_start_20 cl_0 fd_H_11 rfl (show 0 < 1 from by omega) rfl ?_
    refine th_iload_n C dc_H_start_23 rfl rfl ?_
    refine tq_aaldN C dc_H_start_24 rfl (fun _ => rfl) (show 0 < 1 from by omega) rfl m2 (show n2 < 5 from by omega) (fun _ => rfl) ?_
    refine tq_callVv C (c_S_beginAnew l hl th_I0 n2 hth_I0 (by omega)) ok_H_83 cl_6 (show n2 < 5 from by omega) rfl (by decide) dc_H_start_25 rfl (fun I5 p5 => ?_)
    obtain ⟨hI5, p5⟩ := p5
    refine th_iconst (v := 1) C dc_H_start_28 th_c_1 ?_
    exact th_iret C hQ dc_H_start_29 (by decide) (by decide) (Or.inl ⟨_, _, rfl, rfl, ⟨by omega, by have := th_l_1; first | omega | (dsimp only; omega)⟩, hI5.2.2.2⟩)
  · exact absurd c4 (by omega)

set_option maxRecDepth 100000 in
set_option maxHeartbeats 4000000 in
theorem p_H_run (l : Launch) (hl : l.stackTraces = false) (n : Int32) : th_F l yn_H_run cb_H_run 5 (some .int) { frames := 7, cells := 1, slots := 6, locals := 111 } [.inr (some (0, 0)), .inl n] (th_m th_I0) (th_rm (fun x J => ((1 ≤ n.toInt ∧ n.toInt ≤ 40) ∧ x.toInt = 0) ∧ ∀ t i k, 17 ≤ t → J t i k = th_I0 t i k) (fun E J => (E = th_IAE ∧ ¬ (1 ≤ n.toInt ∧ n.toInt ≤ 40)) ∧ ∀ t i k, 17 ≤ t → J t i k = th_I0 t i k)) := by
  refine th_of hl (by decide +kernel) (Nat.le_of_ble_eq_true rfl) (fun z C hQ hN => ?_)
  show th_G l z 5 0 [(0, .inr (some (0, 0))), (1, .inl n)] [] (th_m th_I0) 0 0
  refine th_iload_n C dc_H_run_0 rfl rfl ?_
  refine th_iconst (v := 1) C dc_H_run_1 th_c_1 ?_
  refine th_bipush (v := 40) C dc_H_run_2 th_b_40 ?_
  refine tq_callSt C (c_H_requireBetween l hl th_I0 n ((1 : Int32)) ((40 : Int32))) ok_H_86 rfl (by decide) dc_H_run_4 rfl (fun E pE => th_outX C hQ (fun _ h => nomatch h) (by decide) (by decide) (Or.inr ⟨E, _, rfl, rfl, ⟨pE.1, fun q => by have := th_l_1; have := th_l_40; omega⟩, fun _ _ _ _ => rfl⟩)) (fun p1 => ?_)
  try simp only [th_l_1, th_l_40] at p1
  refine th_aload_n C dc_H_run_7 rfl rfl ?_
  have e2 : (0 : Int32) = th_I0 0 0 9 := rfl
  refine tq_getIe C dc_H_run_8 cl_0 fd_H_89 rfl (show 0 < 1 from by omega) e2 ?_
  refine th_istore_n (lv' := [(0, .inr (some (0, 0))), (1, .inl n), (2, .inl ((0 : Int32)))]) C dc_H_run_11 rfl (by decide) rfl ?_
  refine th_iconst (v := 0) C dc_H_run_12 th_c_0 ?_
  refine th_istore_n (lv' := [(0, .inr (some (0, 0))), (1, .inl n), (2, .inl ((0 : Int32))), (3, .inl ((0 : Int32)))]) C dc_H_run_13 rfl (by decide) rfl ?_
  refine th_iload_n C dc_H_run_14 rfl rfl ?_
  refine th_iload_n C dc_H_run_15 rfl rfl ?_
  refine tq_icmp_ge (tgt := 51) C dc_H_run_16 (by decide) th_l_0 rfl (fun c3 => ?_) (fun c3 => ?_)
  · exact absurd c3 (by omega)
  · refine th_aload_n C dc_H_run_19 rfl rfl ?_
    refine tq_callVp C (p_H_nextReady l hl) ok_H_92 cl_0 (show 0 < 1 from by omega) rfl (by decide) dc_H_run_20 rfl (fun x4 p4 => ?_)
    refine th_istore (lv' := [(0, .inr (some (0, 0))), (1, .inl n), (2, .inl ((0 : Int32))), (3, .inl ((0 : Int32))), (4, .inl x4)]) C dc_H_run_23 (by decide) rfl ?_
    refine th_iload C dc_H_run_25 rfl ?_
    refine th_iconst (v := -1) C dc_H_run_27 th_c_m1 ?_
    refine tq_icmp_ne (tgt := 34) C dc_H_run_28 (by decide) rfl th_l_m1 (fun c5 => ?_) (fun c5 => ?_)
    · exact absurd c5 (by omega)
    · refine th_goto (tgt := 51) C dc_H_run_31 (by decide) ?_
      refine th_aload_n C dc_H_run_51 rfl rfl ?_
      refine tq_getIe C dc_H_run_52 cl_0 fd_H_89 rfl (show 0 < 1 from by omega) e2 ?_
      refine th_iload_n C dc_H_run_55 rfl rfl ?_
      refine tq_isub C dc_H_run_56 th_l_0 th_l_0 (fun x6 e6 a6 => ?_)
      exact th_iret C hQ dc_H_run_57 (by decide) (by decide) (Or.inl ⟨_, _, rfl, rfl, ⟨by omega, by first | omega | (dsimp only; omega)⟩, fun _ _ _ _ => rfl⟩)

set_option maxRecDepth 100000 in
set_option maxHeartbeats 4000000 in
theorem p_H_interrupt (l : Launch) (hl : l.stackTraces = false) (t : Int32) : th_F l yn_H_interrupt cb_H_interrupt 2 (some .int) { frames := 8, cells := 1, slots := 6, locals := 132 } [.inr (some (0, 0)), .inl t] (th_m th_I0) (th_rm (fun x J => ((0 ≤ t.toInt ∧ t.toInt ≤ 4) ∧ x.toInt = 0) ∧ ∀ t i k, 17 ≤ t → J t i k = th_I0 t i k) (fun E J => (E = th_IAE ∧ ¬ (0 ≤ t.toInt ∧ t.toInt ≤ 4)) ∧ ∀ t i k, 17 ≤ t → J t i k = th_I0 t i k)) := by
  refine th_of hl (by decide +kernel) (Nat.le_of_ble_eq_true rfl) (fun z C hQ hN => ?_)
  show th_G l z 2 0 [(0, .inr (some (0, 0))), (1, .inl t)] [] (th_m th_I0) 0 0
  refine th_iload_n C dc_H_interrupt_0 rfl rfl ?_
  refine th_iconst (v := 5) C dc_H_interrupt_1 th_c_5 ?_
  refine tq_callSt C (c_H_requireBelow l hl th_I0 t ((5 : Int32)) (by have := th_l_5; omega)) ok_H_46 rfl (by decide) dc_H_interrupt_2 rfl (fun E pE => th_outX C hQ (fun _ h => nomatch h) (by decide) (by decide) (Or.inr ⟨E, _, rfl, rfl, ⟨pE.1, fun q => by have := th_l_5; omega⟩, fun _ _ _ _ => rfl⟩)) (fun p1 => ?_)
  try simp only [th_l_5] at p1
  refine th_aload_n C dc_H_interrupt_5 rfl rfl ?_
  refine tq_getR C dc_H_interrupt_6 cl_0 fd_H_11 rfl (show 0 < 1 from by omega) rfl ?_
  refine th_iload_n C dc_H_interrupt_9 rfl rfl ?_
  obtain ⟨n2, m2⟩ := th_nat (a := t.toInt) (by omega)
  refine tq_aaldN C dc_H_interrupt_10 rfl (fun _ => rfl) (show 0 < 1 from by omega) rfl m2 (show n2 < 5 from by omega) (fun _ => rfl) ?_
  refine tq_callVp C (c_S_isAlive l hl th_I0 n2 (by omega)) ok_H_79 cl_6 (show n2 < 5 from by omega) rfl (by decide) dc_H_interrupt_11 rfl (fun x3 p3 => ?_)
  have zz3 : (th_I0 6 n2 5).toInt = 0 := th_l_0
  refine tq_if_ne (tgt := 19) C dc_H_interrupt_14 (by decide) rfl (fun c4 => ?_) (fun c4 => ?_)
  · exact absurd c4 (by omega)
  · refine th_iconst (v := 0) C dc_H_interrupt_17 th_c_0 ?_
    exact th_iret C hQ dc_H_interrupt_18 (by decide) (by decide) (Or.inl ⟨_, _, rfl, rfl, ⟨by omega, by have := th_l_0; first | omega | (dsimp only; omega)⟩, fun _ _ _ _ => rfl⟩)

set_option maxRecDepth 100000 in
set_option maxHeartbeats 4000000 in
theorem p_H_slice (l : Launch) (hl : l.stackTraces = false) (n : Int32) : th_F l yn_H_slice cb_H_slice 3 (some .int) { frames := 7, cells := 1, slots := 6, locals := 111 } [.inr (some (0, 0)), .inl n] (th_m th_I0) (th_rm (fun x J => ((1 ≤ n.toInt ∧ n.toInt ≤ 20) ∧ x.toInt = 4) ∧ ∀ t i k, 17 ≤ t → J t i k = th_I0 t i k) (fun E J => (E = th_IAE ∧ ¬ (1 ≤ n.toInt ∧ n.toInt ≤ 20)) ∧ ∀ t i k, 17 ≤ t → J t i k = th_I0 t i k)) := by
  refine th_of hl (by decide +kernel) (Nat.le_of_ble_eq_true rfl) (fun z C hQ hN => ?_)
  show th_G l z 3 0 [(0, .inr (some (0, 0))), (1, .inl n)] [] (th_m th_I0) 0 0
  refine th_iload_n C dc_H_slice_0 rfl rfl ?_
  refine th_iconst (v := 1) C dc_H_slice_1 th_c_1 ?_
  refine th_bipush (v := 20) C dc_H_slice_2 th_b_20 ?_
  refine tq_callSt C (c_H_requireBetween l hl th_I0 n ((1 : Int32)) ((20 : Int32))) ok_H_86 rfl (by decide) dc_H_slice_4 rfl (fun E pE => th_outX C hQ (fun _ h => nomatch h) (by decide) (by decide) (Or.inr ⟨E, _, rfl, rfl, ⟨pE.1, fun q => by have := th_l_1; have := th_l_20; omega⟩, fun _ _ _ _ => rfl⟩)) (fun p1 => ?_)
  try simp only [th_l_1, th_l_20] at p1
  refine th_aload_n C dc_H_slice_7 rfl rfl ?_
  have e2 : (4 : Int32) = th_I0 0 0 6 := rfl
  refine tq_getIe C dc_H_slice_8 cl_0 fd_H_39 rfl (show 0 < 1 from by omega) e2 ?_
  refine th_istore_n (lv' := [(0, .inr (some (0, 0))), (1, .inl n), (2, .inl ((4 : Int32)))]) C dc_H_slice_11 rfl (by decide) rfl ?_
  refine th_aload_n C dc_H_slice_12 rfl rfl ?_
  refine th_iload_n C dc_H_slice_13 rfl rfl ?_
  refine tq_putI C dc_H_slice_14 cl_0 fd_H_39 rfl (show 0 < 1 from by omega) rfl rfl ?_
  refine th_gen (P := fun J => J = th_u th_I0 0 0 6 n) rfl (fun I3 u3 => ?_)
  have e3 : n = I3 0 0 6 := by rw [u3, th_u_eq]
  have g3 : n.toInt = (I3 0 0 6).toInt := by rw [← e3]
  refine th_iload_n C dc_H_slice_17 rfl rfl ?_
  exact th_iret C hQ dc_H_slice_18 (by decide) (by decide) (Or.inl ⟨_, _, rfl, rfl, ⟨by omega, by have := th_l_4; first | omega | (dsimp only; omega)⟩, fun t i k q => by rw [u3, th_u_tag (by omega)]⟩)

set_option maxRecDepth 100000 in
set_option maxHeartbeats 4000000 in
theorem p_H_global (l : Launch) (hl : l.stackTraces = false) (s : Int32) (v : Int32) : th_F l yn_H_global cb_H_global 4 (some .int) { frames := 8, cells := 1, slots := 6, locals := 132 } [.inr (some (0, 0)), .inl s, .inl v] (th_m th_I0) (th_rm (fun x J => ((0 ≤ s.toInt ∧ s.toInt ≤ 3) ∧ x.toInt = 0) ∧ ∀ t i k, 17 ≤ t → J t i k = th_I0 t i k) (fun E J => (E = th_IAE ∧ ¬ (0 ≤ s.toInt ∧ s.toInt ≤ 3)) ∧ ∀ t i k, 17 ≤ t → J t i k = th_I0 t i k)) := by
  refine th_of hl (by decide +kernel) (Nat.le_of_ble_eq_true rfl) (fun z C hQ hN => ?_)
  show th_G l z 4 0 [(0, .inr (some (0, 0))), (1, .inl s), (2, .inl v)] [] (th_m th_I0) 0 0
  refine th_iload_n C dc_H_global_0 rfl rfl ?_
  refine th_iconst (v := 4) C dc_H_global_1 th_c_4 ?_
  refine tq_callSt C (c_H_requireBelow l hl th_I0 s ((4 : Int32)) (by have := th_l_4; omega)) ok_H_46 rfl (by decide) dc_H_global_2 rfl (fun E pE => th_outX C hQ (fun _ h => nomatch h) (by decide) (by decide) (Or.inr ⟨E, _, rfl, rfl, ⟨pE.1, fun q => by have := th_l_4; omega⟩, fun _ _ _ _ => rfl⟩)) (fun p1 => ?_)
  try simp only [th_l_4] at p1
  refine th_aload_n C dc_H_global_5 rfl rfl ?_
  refine tq_getR C dc_H_global_6 cl_0 fd_H_32 rfl (show 0 < 1 from by omega) rfl ?_
  refine th_iload_n C dc_H_global_9 rfl rfl ?_
  obtain ⟨n3, m3⟩ := th_nat (a := s.toInt) (by omega)
  have e2 : (0 : Int32) = th_I0 4 0 n3 := rfl
  refine tq_ialdE C dc_H_global_10 rfl (fun _ => rfl) (show 0 < 1 from by omega) rfl m3 (show n3 < 4 from by omega) e2 ?_
  refine th_istore_n (lv' := [(0, .inr (some (0, 0))), (1, .inl s), (2, .inl v), (3, .inl ((0 : Int32)))]) C dc_H_global_11 rfl (by decide) rfl ?_
  refine th_aload_n C dc_H_global_12 rfl rfl ?_
  refine tq_getR C dc_H_global_13 cl_0 fd_H_32 rfl (show 0 < 1 from by omega) rfl ?_
  refine th_iload_n C dc_H_global_16 rfl rfl ?_
  refine th_iload_n C dc_H_global_17 rfl rfl ?_
  refine tq_iastN C dc_H_global_18 rfl (fun _ => rfl) (show 0 < 1 from by omega) rfl m3 (show n3 < 4 from by omega) ?_
  refine th_gen (P := fun J => J = th_u th_I0 4 0 n3 v) rfl (fun I4 u4 => ?_)
  have e4 : v = I4 4 0 n3 := by rw [u4, th_u_eq]
  have g4 : v.toInt = (I4 4 0 n3).toInt := by rw [← e4]
  refine th_iload_n C dc_H_global_19 rfl rfl ?_
  exact th_iret C hQ dc_H_global_20 (by decide) (by decide) (Or.inl ⟨_, _, rfl, rfl, ⟨by omega, by have := th_l_0; first | omega | (dsimp only; omega)⟩, fun t i k q => by rw [u4, th_u_tag (by omega)]⟩)

set_option maxRecDepth 100000 in
set_option maxHeartbeats 4000000 in
theorem p_H_special (l : Launch) (hl : l.stackTraces = false) (t : Int32) (s : Int32) : th_F l yn_H_special cb_H_special 3 (some .int) { frames := 8, cells := 2, slots := 12, locals := 132 } [.inr (some (0, 0)), .inl t, .inl s] (th_m th_I0) (th_rm (fun x J => ((0 ≤ t.toInt ∧ t.toInt ≤ 4 ∧ 0 ≤ s.toInt ∧ s.toInt ≤ 3) ∧ x.toInt = 0) ∧ ∀ t i k, 17 ≤ t → J t i k = th_I0 t i k) (fun E J => (E = th_IAE ∧ ¬ (0 ≤ t.toInt ∧ t.toInt ≤ 4 ∧ 0 ≤ s.toInt ∧ s.toInt ≤ 3)) ∧ ∀ t i k, 17 ≤ t → J t i k = th_I0 t i k)) := by
  refine th_of hl (by decide +kernel) (Nat.le_of_ble_eq_true rfl) (fun z C hQ hN => ?_)
  show th_G l z 3 0 [(0, .inr (some (0, 0))), (1, .inl t), (2, .inl s)] [] (th_m th_I0) 0 0
  refine th_iload_n C dc_H_special_0 rfl rfl ?_
  refine th_iconst (v := 5) C dc_H_special_1 th_c_5 ?_
  refine tq_callSt C (c_H_requireBelow l hl th_I0 t ((5 : Int32)) (by have := th_l_5; omega)) ok_H_46 rfl (by decide) dc_H_special_2 rfl (fun E pE => th_outX C hQ (fun _ h => nomatch h) (by decide) (by decide) (Or.inr ⟨E, _, rfl, rfl, ⟨pE.1, fun q => by have := th_l_5; omega⟩, fun _ _ _ _ => rfl⟩)) (fun p1 => ?_)
  try simp only [th_l_5] at p1
  refine th_iload_n C dc_H_special_5 rfl rfl ?_
  refine th_iconst (v := 4) C dc_H_special_6 th_c_4 ?_
  refine tq_callSt C (c_H_requireBelow l hl th_I0 s ((4 : Int32)) (by have := th_l_4; omega)) ok_H_46 rfl (by decide) dc_H_special_7 rfl (fun E pE => th_outX C hQ (fun _ h => nomatch h) (by decide) (by decide) (Or.inr ⟨E, _, rfl, rfl, ⟨pE.1, fun q => by have := th_l_4; omega⟩, fun _ _ _ _ => rfl⟩)) (fun p2 => ?_)
  try simp only [th_l_4] at p2
  refine th_aload_n C dc_H_special_10 rfl rfl ?_
  refine th_aload_n C dc_H_special_11 rfl rfl ?_
  refine tq_getR C dc_H_special_12 cl_0 fd_H_11 rfl (show 0 < 1 from by omega) rfl ?_
  refine th_iload_n C dc_H_special_15 rfl rfl ?_
  obtain ⟨n3, m3⟩ := th_nat (a := t.toInt) (by omega)
  refine tq_aaldN C dc_H_special_16 rfl (fun _ => rfl) (show 0 < 1 from by omega) rfl m3 (show n3 < 5 from by omega) (fun _ => rfl) ?_
  refine th_iload_n C dc_H_special_17 rfl rfl ?_
  refine tq_callVp C (p_H_read l hl n3 s (by omega) (by omega)) ok_H_102 cl_0 (show 0 < 1 from by omega) rfl (by decide) dc_H_special_18 rfl (fun x4 p4 => ?_)
  exact th_iret C hQ dc_H_special_21 (by decide) (by decide) (Or.inl ⟨_, _, rfl, rfl, ⟨by omega, by first | omega | (dsimp only; omega)⟩, fun _ _ _ _ => rfl⟩)

set_option maxRecDepth 100000 in
set_option maxHeartbeats 4000000 in
theorem p_H_look (l : Launch) (hl : l.stackTraces = false) (t : Int32) (w : Int32) : th_F l yn_H_look cb_H_look 4 (some .int) { frames := 8, cells := 2, slots := 12, locals := 132 } [.inr (some (0, 0)), .inl t, .inl w] (th_m th_I0) (th_rm (fun x J => ((0 ≤ t.toInt ∧ t.toInt ≤ 4 ∧ 0 ≤ w.toInt ∧ w.toInt ≤ 9) ∧ ((w.toInt = 6 ∧ x.toInt = 24) ∨ (w.toInt ≠ 6 ∧ x.toInt = 0))) ∧ ∀ t i k, 17 ≤ t → J t i k = th_I0 t i k) (fun E J => (E = th_IAE ∧ ¬ (0 ≤ t.toInt ∧ t.toInt ≤ 4 ∧ 0 ≤ w.toInt ∧ w.toInt ≤ 9)) ∧ ∀ t i k, 17 ≤ t → J t i k = th_I0 t i k)) := by
  refine th_of hl (by decide +kernel) (Nat.le_of_ble_eq_true rfl) (fun z C hQ hN => ?_)
  show th_G l z 4 0 [(0, .inr (some (0, 0))), (1, .inl t), (2, .inl w)] [] (th_m th_I0) 0 0
  refine th_iload_n C dc_H_look_0 rfl rfl ?_
  refine th_iconst (v := 5) C dc_H_look_1 th_c_5 ?_
  refine tq_callSt C (c_H_requireBelow l hl th_I0 t ((5 : Int32)) (by have := th_l_5; omega)) ok_H_46 rfl (by decide) dc_H_look_2 rfl (fun E pE => th_outX C hQ (fun _ h => nomatch h) (by decide) (by decide) (Or.inr ⟨E, _, rfl, rfl, ⟨pE.1, fun q => by have := th_l_5; omega⟩, fun _ _ _ _ => rfl⟩)) (fun p1 => ?_)
  try simp only [th_l_5] at p1
  refine th_aload_n C dc_H_look_5 rfl rfl ?_
  refine tq_getR C dc_H_look_6 cl_0 fd_H_11 rfl (show 0 < 1 from by omega) rfl ?_
  refine th_iload_n C dc_H_look_9 rfl rfl ?_
  obtain ⟨n2, m2⟩ := th_nat (a := t.toInt) (by omega)
  refine tq_aaldN C dc_H_look_10 rfl (fun _ => rfl) (show 0 < 1 from by omega) rfl m2 (show n2 < 5 from by omega) (fun _ => rfl) ?_
  refine th_astore_n (lv' := [(0, .inr (some (0, 0))), (1, .inl t), (2, .inl w), (3, .inr (some (6, n2)))]) C dc_H_look_11 rfl (by decide) rfl ?_
  refine th_iload_n C dc_H_look_12 rfl rfl ?_
  have w3 : w.toInt = 0 ∨ w.toInt = 1 ∨ w.toInt = 2 ∨ w.toInt = 3 ∨ w.toInt = 4 ∨ w.toInt = 5 ∨ w.toInt = 6 ∨ w.toInt = 7 ∨ w.toInt = 8 ∨ w.toInt = 9 ∨ (w.toInt < 0 ∨ 9 < w.toInt) := by omega
  rcases w3 with w3 | w3 | w3 | w3 | w3 | w3 | w3 | w3 | w3 | w3 | w3
  · refine th_tableIn (tgt := 68) C dc_H_look_13 (by omega) (by omega) (by rw [w3]; rfl) (by decide) ?_
    refine th_aload_n C dc_H_look_68 rfl rfl ?_
    have e4 : (0 : Int32) = th_I0 6 n2 5 := rfl
    refine tq_getIe C dc_H_look_69 cl_6 fd_H_106 rfl (show n2 < 5 from by omega) e4 ?_
    exact th_iret C hQ dc_H_look_72 (by decide) (by decide) (Or.inl ⟨_, _, rfl, rfl, ⟨by omega, by have := th_l_0; first | omega | (dsimp only; omega)⟩, fun _ _ _ _ => rfl⟩)
  · refine th_tableIn (tgt := 73) C dc_H_look_13 (by omega) (by omega) (by rw [w3]; rfl) (by decide) ?_
    refine th_aload_n C dc_H_look_73 rfl rfl ?_
    have e5 : (0 : Int32) = th_I0 6 n2 6 := rfl
    refine tq_getIe C dc_H_look_74 cl_6 fd_H_109 rfl (show n2 < 5 from by omega) e5 ?_
    exact th_iret C hQ dc_H_look_77 (by decide) (by decide) (Or.inl ⟨_, _, rfl, rfl, ⟨by omega, by have := th_l_0; first | omega | (dsimp only; omega)⟩, fun _ _ _ _ => rfl⟩)
  · refine th_tableIn (tgt := 78) C dc_H_look_13 (by omega) (by omega) (by rw [w3]; rfl) (by decide) ?_
    refine th_aload_n C dc_H_look_78 rfl rfl ?_
    have e6 : (0 : Int32) = th_I0 6 n2 7 := rfl
    refine tq_getIe C dc_H_look_79 cl_6 fd_H_112 rfl (show n2 < 5 from by omega) e6 ?_
    exact th_iret C hQ dc_H_look_82 (by decide) (by decide) (Or.inl ⟨_, _, rfl, rfl, ⟨by omega, by have := th_l_0; first | omega | (dsimp only; omega)⟩, fun _ _ _ _ => rfl⟩)
  · refine th_tableIn (tgt := 83) C dc_H_look_13 (by omega) (by omega) (by rw [w3]; rfl) (by decide) ?_
    refine th_aload_n C dc_H_look_83 rfl rfl ?_
    refine tq_getR C dc_H_look_84 cl_6 fd_H_115 rfl (show n2 < 5 from by omega) rfl ?_
    have e7 : (0 : Int32) = th_I0 11 (2 * n2) 2 := rfl
    refine tq_getIe C dc_H_look_87 cl_11 fd_H_119 rfl (show 2 * n2 < 10 from by omega) e7 ?_
    exact th_iret C hQ dc_H_look_90 (by decide) (by decide) (Or.inl ⟨_, _, rfl, rfl, ⟨by omega, by have := th_l_0; first | omega | (dsimp only; omega)⟩, fun _ _ _ _ => rfl⟩)
  · refine th_tableIn (tgt := 91) C dc_H_look_13 (by omega) (by omega) (by rw [w3]; rfl) (by decide) ?_
    refine th_aload_n C dc_H_look_91 rfl rfl ?_
    refine tq_getR C dc_H_look_92 cl_6 fd_H_122 rfl (show n2 < 5 from by omega) rfl ?_
    have e8 : (0 : Int32) = th_I0 11 (2 * n2 + 1) 2 := rfl
    refine tq_getIe C dc_H_look_95 cl_11 fd_H_119 rfl (show 2 * n2 + 1 < 10 from by omega) e8 ?_
    exact th_iret C hQ dc_H_look_98 (by decide) (by decide) (Or.inl ⟨_, _, rfl, rfl, ⟨by omega, by have := th_l_0; first | omega | (dsimp only; omega)⟩, fun _ _ _ _ => rfl⟩)
  · refine th_tableIn (tgt := 99) C dc_H_look_13 (by omega) (by omega) (by rw [w3]; rfl) (by decide) ?_
    refine th_aload_n C dc_H_look_99 rfl rfl ?_
    have e9 : (0 : Int32) = th_I0 6 n2 11 := rfl
    refine tq_getIe C dc_H_look_100 cl_6 fd_H_125 rfl (show n2 < 5 from by omega) e9 ?_
    refine tq_if_eq (tgt := 110) C dc_H_look_103 (by decide) th_l_0 (fun c10 => ?_) (fun c10 => ?_)
    · refine th_iconst (v := 0) C dc_H_look_110 th_c_0 ?_
      exact th_iret C hQ dc_H_look_111 (by decide) (by decide) (Or.inl ⟨_, _, rfl, rfl, ⟨by omega, by have := th_l_0; first | omega | (dsimp only; omega)⟩, fun _ _ _ _ => rfl⟩)
    · exact absurd c10 (by decide)
  · refine th_tableIn (tgt := 112) C dc_H_look_13 (by omega) (by omega) (by rw [w3]; rfl) (by decide) ?_
    refine th_aload_n C dc_H_look_112 rfl rfl ?_
    have e11 : (24 : Int32) = th_I0 6 n2 8 := rfl
    refine tq_getIe C dc_H_look_113 cl_6 fd_H_129 rfl (show n2 < 5 from by omega) e11 ?_
    exact th_iret C hQ dc_H_look_116 (by decide) (by decide) (Or.inl ⟨_, _, rfl, rfl, ⟨by omega, by have := th_l_24; first | omega | (dsimp only; omega)⟩, fun _ _ _ _ => rfl⟩)
  · refine th_tableIn (tgt := 117) C dc_H_look_13 (by omega) (by omega) (by rw [w3]; rfl) (by decide) ?_
    refine th_aload_n C dc_H_look_117 rfl rfl ?_
    have e12 : (0 : Int32) = th_I0 6 n2 9 := rfl
    refine tq_getIe C dc_H_look_118 cl_6 fd_H_132 rfl (show n2 < 5 from by omega) e12 ?_
    exact th_iret C hQ dc_H_look_121 (by decide) (by decide) (Or.inl ⟨_, _, rfl, rfl, ⟨by omega, by have := th_l_0; first | omega | (dsimp only; omega)⟩, fun _ _ _ _ => rfl⟩)
  · refine th_tableIn (tgt := 122) C dc_H_look_13 (by omega) (by omega) (by rw [w3]; rfl) (by decide) ?_
    refine th_aload_n C dc_H_look_122 rfl rfl ?_
    have e13 : (0 : Int32) = th_I0 6 n2 10 := rfl
    refine tq_getIe C dc_H_look_123 cl_6 fd_H_135 rfl (show n2 < 5 from by omega) e13 ?_
    exact th_iret C hQ dc_H_look_126 (by decide) (by decide) (Or.inl ⟨_, _, rfl, rfl, ⟨by omega, by have := th_l_0; first | omega | (dsimp only; omega)⟩, fun _ _ _ _ => rfl⟩)
  · refine th_tableIn (tgt := 127) C dc_H_look_13 (by omega) (by omega) (by rw [w3]; rfl) (by decide) ?_
    refine th_aload_n C dc_H_look_127 rfl rfl ?_
    refine tq_getR C dc_H_look_128 cl_6 fd_H_138 rfl (show n2 < 5 from by omega) rfl ?_
    have e14 : (0 : Int32) = th_I0 14 n2 1 := rfl
    refine tq_getIe C dc_H_look_131 cl_14 fd_H_142 rfl (show n2 < 11 from by omega) e14 ?_
    exact th_iret C hQ dc_H_look_134 (by decide) (by decide) (Or.inl ⟨_, _, rfl, rfl, ⟨by omega, by have := th_l_0; first | omega | (dsimp only; omega)⟩, fun _ _ _ _ => rfl⟩)
  · refine th_tableOut (tgt := 135) C dc_H_look_13 w3 (by decide) ?_
    exact th_throw C hQ okT_H_143 dc_H_look_135 dc_H_look_138 dc_H_look_139 dc_H_look_142 (fun _ h => nomatch h) (by decide) (by decide) (by decide) (by decide) (by decide) (by decide) rfl (Or.inr ⟨_, _, rfl, rfl, ⟨rfl, fun q => by omega⟩, fun _ _ _ _ => rfl⟩)

set_option maxRecDepth 100000 in
set_option maxHeartbeats 4000000 in
theorem p_H_lock (l : Launch) (hl : l.stackTraces = false) (m : Int32) (w : Int32) : th_F l yn_H_lock cb_H_lock 3 (some .int) { frames := 8, cells := 2, slots := 12, locals := 132 } [.inr (some (0, 0)), .inl m, .inl w] (th_m th_I0) (th_rm (fun x J => ((0 ≤ m.toInt ∧ m.toInt ≤ 2 ∧ 0 ≤ w.toInt ∧ w.toInt ≤ 3) ∧ ((w.toInt = 0 ∧ x.toInt = -1) ∨ (w.toInt ≠ 0 ∧ x.toInt = 0))) ∧ ∀ t i k, 17 ≤ t → J t i k = th_I0 t i k) (fun E J => (E = th_IAE ∧ ¬ (0 ≤ m.toInt ∧ m.toInt ≤ 2 ∧ 0 ≤ w.toInt ∧ w.toInt ≤ 3)) ∧ ∀ t i k, 17 ≤ t → J t i k = th_I0 t i k)) := by
  refine th_of hl (by decide +kernel) (Nat.le_of_ble_eq_true rfl) (fun z C hQ hN => ?_)
  show th_G l z 3 0 [(0, .inr (some (0, 0))), (1, .inl m), (2, .inl w)] [] (th_m th_I0) 0 0
  refine th_iload_n C dc_H_lock_0 rfl rfl ?_
  refine th_iconst (v := 3) C dc_H_lock_1 th_c_3 ?_
  refine tq_callSt C (c_H_requireBelow l hl th_I0 m ((3 : Int32)) (by have := th_l_3; omega)) ok_H_46 rfl (by decide) dc_H_lock_2 rfl (fun E pE => th_outX C hQ (fun _ h => nomatch h) (by decide) (by decide) (Or.inr ⟨E, _, rfl, rfl, ⟨pE.1, fun q => by have := th_l_3; omega⟩, fun _ _ _ _ => rfl⟩)) (fun p1 => ?_)
  try simp only [th_l_3] at p1
  refine th_iload_n C dc_H_lock_5 rfl rfl ?_
  have w2 : w.toInt = 0 ∨ w.toInt = 1 ∨ w.toInt = 2 ∨ w.toInt = 3 ∨ (w.toInt < 0 ∨ 3 < w.toInt) := by omega
  rcases w2 with w2 | w2 | w2 | w2 | w2
  · refine th_tableIn (tgt := 36) C dc_H_lock_6 (by omega) (by omega) (by rw [w2]; rfl) (by decide) ?_
    refine th_aload_n C dc_H_lock_36 rfl rfl ?_
    refine tq_getR C dc_H_lock_37 cl_0 fd_H_20 rfl (show 0 < 1 from by omega) rfl ?_
    refine th_iload_n C dc_H_lock_40 rfl rfl ?_
    obtain ⟨n3, m3⟩ := th_nat (a := m.toInt) (by omega)
    refine tq_aaldN C dc_H_lock_41 rfl (fun _ => rfl) (show 0 < 1 from by omega) rfl m3 (show n3 < 3 from by omega) (fun _ => rfl) ?_
    have e4 : (-1 : Int32) = th_I0 16 n3 1 := rfl
    refine tq_getIe C dc_H_lock_42 cl_16 fd_H_146 rfl (show n3 < 3 from by omega) e4 ?_
    exact th_iret C hQ dc_H_lock_45 (by decide) (by decide) (Or.inl ⟨_, _, rfl, rfl, ⟨by omega, by have := th_l_m1; first | omega | (dsimp only; omega)⟩, fun _ _ _ _ => rfl⟩)
  · refine th_tableIn (tgt := 46) C dc_H_lock_6 (by omega) (by omega) (by rw [w2]; rfl) (by decide) ?_
    refine th_aload_n C dc_H_lock_46 rfl rfl ?_
    refine tq_getR C dc_H_lock_47 cl_0 fd_H_20 rfl (show 0 < 1 from by omega) rfl ?_
    refine th_iload_n C dc_H_lock_50 rfl rfl ?_
    obtain ⟨n5, m5⟩ := th_nat (a := m.toInt) (by omega)
    refine tq_aaldN C dc_H_lock_51 rfl (fun _ => rfl) (show 0 < 1 from by omega) rfl m5 (show n5 < 3 from by omega) (fun _ => rfl) ?_
    have e6 : (0 : Int32) = th_I0 16 n5 2 := rfl
    refine tq_getIe C dc_H_lock_52 cl_16 fd_H_149 rfl (show n5 < 3 from by omega) e6 ?_
    exact th_iret C hQ dc_H_lock_55 (by decide) (by decide) (Or.inl ⟨_, _, rfl, rfl, ⟨by omega, by have := th_l_0; first | omega | (dsimp only; omega)⟩, fun _ _ _ _ => rfl⟩)
  · refine th_tableIn (tgt := 56) C dc_H_lock_6 (by omega) (by omega) (by rw [w2]; rfl) (by decide) ?_
    refine th_aload_n C dc_H_lock_56 rfl rfl ?_
    refine tq_getR C dc_H_lock_57 cl_0 fd_H_20 rfl (show 0 < 1 from by omega) rfl ?_
    refine th_iload_n C dc_H_lock_60 rfl rfl ?_
    obtain ⟨n7, m7⟩ := th_nat (a := m.toInt) (by omega)
    refine tq_aaldN C dc_H_lock_61 rfl (fun _ => rfl) (show 0 < 1 from by omega) rfl m7 (show n7 < 3 from by omega) (fun _ => rfl) ?_
    refine tq_getR C dc_H_lock_62 cl_16 fd_H_152 rfl (show n7 < 3 from by omega) rfl ?_
    have e8 : (0 : Int32) = th_I0 14 (5 + n7) 1 := rfl
    refine tq_getIe C dc_H_lock_65 cl_14 fd_H_142 rfl (show 5 + n7 < 11 from by omega) e8 ?_
    exact th_iret C hQ dc_H_lock_68 (by decide) (by decide) (Or.inl ⟨_, _, rfl, rfl, ⟨by omega, by have := th_l_0; first | omega | (dsimp only; omega)⟩, fun _ _ _ _ => rfl⟩)
  · refine th_tableIn (tgt := 69) C dc_H_lock_6 (by omega) (by omega) (by rw [w2]; rfl) (by decide) ?_
    refine th_aload_n C dc_H_lock_69 rfl rfl ?_
    refine tq_getR C dc_H_lock_70 cl_0 fd_H_27 rfl (show 0 < 1 from by omega) rfl ?_
    refine th_iload_n C dc_H_lock_73 rfl rfl ?_
    obtain ⟨n9, m9⟩ := th_nat (a := m.toInt) (by omega)
    refine tq_aaldN C dc_H_lock_74 rfl (fun _ => rfl) (show 0 < 1 from by omega) rfl m9 (show n9 < 3 from by omega) (fun _ => rfl) ?_
    have e10 : (0 : Int32) = th_I0 14 (8 + n9) 1 := rfl
    refine tq_getIe C dc_H_lock_75 cl_14 fd_H_142 rfl (show 8 + n9 < 11 from by omega) e10 ?_
    exact th_iret C hQ dc_H_lock_78 (by decide) (by decide) (Or.inl ⟨_, _, rfl, rfl, ⟨by omega, by have := th_l_0; first | omega | (dsimp only; omega)⟩, fun _ _ _ _ => rfl⟩)
  · refine th_tableOut (tgt := 79) C dc_H_lock_6 w2 (by decide) ?_
    exact th_throw C hQ okT_H_143 dc_H_lock_79 dc_H_lock_82 dc_H_lock_83 dc_H_lock_86 (fun _ h => nomatch h) (by decide) (by decide) (by decide) (by decide) (by decide) (by decide) rfl (Or.inr ⟨_, _, rfl, rfl, ⟨rfl, fun q => by omega⟩, fun _ _ _ _ => rfl⟩)

set_option maxRecDepth 100000 in
set_option maxHeartbeats 4000000 in
theorem p_H_said (l : Launch) (hl : l.stackTraces = false) (k : Int32) : th_F l yn_H_said cb_H_said 2 (some .int) { frames := 6, cells := 1, slots := 6, locals := 89 } [.inr (some (0, 0)), .inl k] (th_m th_I0) (th_rm (fun x J => ((False) ∧ True) ∧ ∀ t i k, 17 ≤ t → J t i k = th_I0 t i k) (fun E J => (E = th_IOB ∧ ¬ (False)) ∧ ∀ t i k, 17 ≤ t → J t i k = th_I0 t i k)) := by
  refine th_of hl (by decide +kernel) (Nat.le_of_ble_eq_true rfl) (fun z C hQ hN => ?_)
  show th_G l z 2 0 [(0, .inr (some (0, 0))), (1, .inl k)] [] (th_m th_I0) 0 0
  refine th_iload_n C dc_H_said_0 rfl rfl ?_
  refine tq_if_lt (tgt := 18) C dc_H_said_1 (by decide) rfl (fun c1 => ?_) (fun c1 => ?_)
  · exact th_throw C hQ okT_H_72 dc_H_said_18 dc_H_said_21 dc_H_said_22 dc_H_said_25 (fun _ h => nomatch h) (by decide) (by decide) (by decide) (by decide) (by decide) (by decide) rfl (Or.inr ⟨_, _, rfl, rfl, ⟨rfl, fun q => q⟩, fun _ _ _ _ => rfl⟩)
  · refine th_iload_n C dc_H_said_4 rfl rfl ?_
    refine th_aload_n C dc_H_said_5 rfl rfl ?_
    have e2 : (0 : Int32) = th_I0 0 0 5 := rfl
    refine tq_getIe C dc_H_said_6 cl_0 fd_H_155 rfl (show 0 < 1 from by omega) e2 ?_
    refine tq_icmp_ge (tgt := 18) C dc_H_said_9 (by decide) rfl th_l_0 (fun c3 => ?_) (fun c3 => ?_)
    · exact th_throw C hQ okT_H_72 dc_H_said_18 dc_H_said_21 dc_H_said_22 dc_H_said_25 (fun _ h => nomatch h) (by decide) (by decide) (by decide) (by decide) (by decide) (by decide) rfl (Or.inr ⟨_, _, rfl, rfl, ⟨rfl, fun q => q⟩, fun _ _ _ _ => rfl⟩)
    · exact absurd c3 (by omega)

set_option maxRecDepth 100000 in
set_option maxHeartbeats 4000000 in
theorem p_H_count (l : Launch) (hl : l.stackTraces = false) (w : Int32) : th_F l yn_H_count cb_H_count 2 (some .int) { frames := 6, cells := 1, slots := 6, locals := 89 } [.inr (some (0, 0)), .inl w] (th_m th_I0) (th_rm (fun x J => ((0 ≤ w.toInt ∧ w.toInt ≤ 7) ∧ ((w.toInt = 6 ∧ x.toInt = -1) ∨ (w.toInt ≠ 6 ∧ x.toInt = 0))) ∧ ∀ t i k, 17 ≤ t → J t i k = th_I0 t i k) (fun E J => (E = th_IAE ∧ ¬ (0 ≤ w.toInt ∧ w.toInt ≤ 7)) ∧ ∀ t i k, 17 ≤ t → J t i k = th_I0 t i k)) := by
  refine th_of hl (by decide +kernel) (Nat.le_of_ble_eq_true rfl) (fun z C hQ hN => ?_)
  show th_G l z 2 0 [(0, .inr (some (0, 0))), (1, .inl w)] [] (th_m th_I0) 0 0
  refine th_iload_n C dc_H_count_0 rfl rfl ?_
  have w1 : w.toInt = 0 ∨ w.toInt = 1 ∨ w.toInt = 2 ∨ w.toInt = 3 ∨ w.toInt = 4 ∨ w.toInt = 5 ∨ w.toInt = 6 ∨ w.toInt = 7 ∨ (w.toInt < 0 ∨ 7 < w.toInt) := by omega
  rcases w1 with w1 | w1 | w1 | w1 | w1 | w1 | w1 | w1 | w1
  · refine th_tableIn (tgt := 48) C dc_H_count_1 (by omega) (by omega) (by rw [w1]; rfl) (by decide) ?_
    refine th_aload_n C dc_H_count_48 rfl rfl ?_
    have e2 : (0 : Int32) = th_I0 0 0 5 := rfl
    refine tq_getIe C dc_H_count_49 cl_0 fd_H_155 rfl (show 0 < 1 from by omega) e2 ?_
    exact th_iret C hQ dc_H_count_52 (by decide) (by decide) (Or.inl ⟨_, _, rfl, rfl, ⟨by omega, by have := th_l_0; first | omega | (dsimp only; omega)⟩, fun _ _ _ _ => rfl⟩)
  · refine th_tableIn (tgt := 53) C dc_H_count_1 (by omega) (by omega) (by rw [w1]; rfl) (by decide) ?_
    refine th_aload_n C dc_H_count_53 rfl rfl ?_
    have e3 : (0 : Int32) = th_I0 0 0 9 := rfl
    refine tq_getIe C dc_H_count_54 cl_0 fd_H_89 rfl (show 0 < 1 from by omega) e3 ?_
    exact th_iret C hQ dc_H_count_57 (by decide) (by decide) (Or.inl ⟨_, _, rfl, rfl, ⟨by omega, by have := th_l_0; first | omega | (dsimp only; omega)⟩, fun _ _ _ _ => rfl⟩)
  · refine th_tableIn (tgt := 58) C dc_H_count_1 (by omega) (by omega) (by rw [w1]; rfl) (by decide) ?_
    refine th_aload_n C dc_H_count_58 rfl rfl ?_
    have e4 : (0 : Int32) = th_I0 0 0 8 := rfl
    refine tq_getIe C dc_H_count_59 cl_0 fd_H_158 rfl (show 0 < 1 from by omega) e4 ?_
    exact th_iret C hQ dc_H_count_62 (by decide) (by decide) (Or.inl ⟨_, _, rfl, rfl, ⟨by omega, by have := th_l_0; first | omega | (dsimp only; omega)⟩, fun _ _ _ _ => rfl⟩)
  · refine th_tableIn (tgt := 63) C dc_H_count_1 (by omega) (by omega) (by rw [w1]; rfl) (by decide) ?_
    refine th_aload_n C dc_H_count_63 rfl rfl ?_
    refine tq_callVp C (p_H_aliveCount l hl) ok_H_161 cl_0 (show 0 < 1 from by omega) rfl (by decide) dc_H_count_64 rfl (fun x5 p5 => ?_)
    exact th_iret C hQ dc_H_count_67 (by decide) (by decide) (Or.inl ⟨_, _, rfl, rfl, ⟨by omega, by first | omega | (dsimp only; omega)⟩, fun _ _ _ _ => rfl⟩)
  · refine th_tableIn (tgt := 68) C dc_H_count_1 (by omega) (by omega) (by rw [w1]; rfl) (by decide) ?_
    refine th_aload_n C dc_H_count_68 rfl rfl ?_
    refine tq_callVp C (p_H_readyCount l hl) ok_H_164 cl_0 (show 0 < 1 from by omega) rfl (by decide) dc_H_count_69 rfl (fun x6 p6 => ?_)
    exact th_iret C hQ dc_H_count_72 (by decide) (by decide) (Or.inl ⟨_, _, rfl, rfl, ⟨by omega, by first | omega | (dsimp only; omega)⟩, fun _ _ _ _ => rfl⟩)
  · refine th_tableIn (tgt := 73) C dc_H_count_1 (by omega) (by omega) (by rw [w1]; rfl) (by decide) ?_
    refine th_aload_n C dc_H_count_73 rfl rfl ?_
    have e7 : (0 : Int32) = th_I0 0 0 10 := rfl
    refine tq_getIe C dc_H_count_74 cl_0 fd_H_167 rfl (show 0 < 1 from by omega) e7 ?_
    exact th_iret C hQ dc_H_count_77 (by decide) (by decide) (Or.inl ⟨_, _, rfl, rfl, ⟨by omega, by have := th_l_0; first | omega | (dsimp only; omega)⟩, fun _ _ _ _ => rfl⟩)
  · refine th_tableIn (tgt := 78) C dc_H_count_1 (by omega) (by omega) (by rw [w1]; rfl) (by decide) ?_
    refine th_aload_n C dc_H_count_78 rfl rfl ?_
    have e8 : (-1 : Int32) = th_I0 0 0 7 := rfl
    refine tq_getIe C dc_H_count_79 cl_0 fd_H_43 rfl (show 0 < 1 from by omega) e8 ?_
    exact th_iret C hQ dc_H_count_82 (by decide) (by decide) (Or.inl ⟨_, _, rfl, rfl, ⟨by omega, by have := th_l_m1; first | omega | (dsimp only; omega)⟩, fun _ _ _ _ => rfl⟩)
  · refine th_tableIn (tgt := 83) C dc_H_count_1 (by omega) (by omega) (by rw [w1]; rfl) (by decide) ?_
    refine th_aload_n C dc_H_count_83 rfl rfl ?_
    have e9 : (0 : Int32) = th_I0 0 0 11 := rfl
    refine tq_getIe C dc_H_count_84 cl_0 fd_H_170 rfl (show 0 < 1 from by omega) e9 ?_
    exact th_iret C hQ dc_H_count_87 (by decide) (by decide) (Or.inl ⟨_, _, rfl, rfl, ⟨by omega, by have := th_l_0; first | omega | (dsimp only; omega)⟩, fun _ _ _ _ => rfl⟩)
  · refine th_tableOut (tgt := 88) C dc_H_count_1 w1 (by decide) ?_
    exact th_throw C hQ okT_H_143 dc_H_count_88 dc_H_count_91 dc_H_count_92 dc_H_count_95 (fun _ h => nomatch h) (by decide) (by decide) (by decide) (by decide) (by decide) (by decide) rfl (Or.inr ⟨_, _, rfl, rfl, ⟨rfl, fun q => by omega⟩, fun _ _ _ _ => rfl⟩)
end
section
set_option maxRecDepth 100000 in
set_option maxHeartbeats 4000000 in
theorem p_O_is (l : Launch) (hl : l.stackTraces = false) (I : th_I) (v : Int32) (a : Int32) (b : Int32) : th_F l yn_O_is cb_O_is 3 (some .boolean) { frames := 0, cells := 0, slots := 0, locals := 0 } [.inl v, .inl a, .inl b] (th_m I) (th_rp I (fun x => x.toInt = 1 ∧ a.toInt ≤ v.toInt ∧ v.toInt ≤ b.toInt ∨ x.toInt = 0 ∧ ¬ (a.toInt ≤ v.toInt ∧ v.toInt ≤ b.toInt))) := by
  refine th_of hl (by decide +kernel) (Nat.le_of_ble_eq_true rfl) (fun z C hQ hN => ?_)
  show th_G l z 3 0 [(0, .inl v), (1, .inl a), (2, .inl b)] [] (th_m I) 0 0
  refine th_iload_n C dc_O_is_0 rfl rfl ?_
  refine th_iload_n C dc_O_is_1 rfl rfl ?_
  refine tq_icmp_lt (tgt := 14) C dc_O_is_2 (by decide) rfl rfl (fun c1 => ?_) (fun c1 => ?_)
  · refine th_iconst (v := 0) C dc_O_is_14 th_c_0 ?_
    exact th_zret C hQ dc_O_is_15 (rfl) (by decide) (by decide) ⟨_, rfl, rfl, (by have := th_l_0; first | omega | (dsimp only; omega))⟩
  · refine th_iload_n C dc_O_is_5 rfl rfl ?_
    refine th_iload_n C dc_O_is_6 rfl rfl ?_
    refine tq_icmp_gt (tgt := 14) C dc_O_is_7 (by decide) rfl rfl (fun c2 => ?_) (fun c2 => ?_)
    · refine th_iconst (v := 0) C dc_O_is_14 th_c_0 ?_
      exact th_zret C hQ dc_O_is_15 (rfl) (by decide) (by decide) ⟨_, rfl, rfl, (by have := th_l_0; first | omega | (dsimp only; omega))⟩
    · refine th_iconst (v := 1) C dc_O_is_10 th_c_1 ?_
      refine th_goto (tgt := 15) C dc_O_is_11 (by decide) ?_
      exact th_zret C hQ dc_O_is_15 (rfl) (by decide) (by decide) ⟨_, rfl, rfl, (by have := th_l_1; first | omega | (dsimp only; omega))⟩

set_option maxRecDepth 100000 in
set_option maxHeartbeats 4000000 in
theorem p_O_fits (l : Launch) (hl : l.stackTraces = false) (I : th_I) (o : Int32) (a : Int32) (b : Int32) : th_F l yn_O_fits cb_O_fits 3 (some .boolean) { frames := 1, cells := 0, slots := 0, locals := 22 } [.inl o, .inl a, .inl b] (th_m I) (th_rp I (fun x => x.toInt = 1 ∧ th_valid o.toInt a.toInt b.toInt ∨ x.toInt = 0 ∧ ¬ th_valid o.toInt a.toInt b.toInt)) := by
  refine th_of hl (by decide +kernel) (Nat.le_of_ble_eq_true rfl) (fun z C hQ hN => ?_)
  show th_G l z 3 0 [(0, .inl o), (1, .inl a), (2, .inl b)] [] (th_m I) 0 0
  refine th_iload_n C dc_O_fits_0 rfl rfl ?_
  have w1 : o.toInt = 0 ∨ o.toInt = 1 ∨ o.toInt = 2 ∨ o.toInt = 3 ∨ o.toInt = 4 ∨ o.toInt = 5 ∨ o.toInt = 6 ∨ o.toInt = 7 ∨ o.toInt = 8 ∨ o.toInt = 9 ∨ o.toInt = 10 ∨ o.toInt = 11 ∨ o.toInt = 12 ∨ o.toInt = 13 ∨ o.toInt = 14 ∨ o.toInt = 15 ∨ o.toInt = 16 ∨ o.toInt = 17 ∨ o.toInt = 18 ∨ o.toInt = 19 ∨ (o.toInt < 0 ∨ 19 < o.toInt) := by omega
  rcases w1 with w1 | w1 | w1 | w1 | w1 | w1 | w1 | w1 | w1 | w1 | w1 | w1 | w1 | w1 | w1 | w1 | w1 | w1 | w1 | w1 | w1
  · refine th_tableIn (tgt := 96) C dc_O_fits_1 (by omega) (by omega) (by rw [w1]; rfl) (by decide) ?_
    refine th_iload_n C dc_O_fits_96 rfl rfl ?_
    refine th_iconst (v := 0) C dc_O_fits_97 th_c_0 ?_
    refine th_iconst (v := 3) C dc_O_fits_98 th_c_3 ?_
    refine tq_callSp C (p_O_is l hl I a ((0 : Int32)) ((3 : Int32))) ok_O_117 rfl (by decide) dc_O_fits_99 rfl (fun x2 p2 => ?_)
    try simp only [th_l_0, th_l_3] at p2
    exact th_zret C hQ dc_O_fits_102 (th_zn (by omega)) (by decide) (by decide) ⟨_, rfl, rfl, (by (try dsimp only); unfold th_valid; first | omega | (dsimp only; omega))⟩
  · refine th_tableIn (tgt := 96) C dc_O_fits_1 (by omega) (by omega) (by rw [w1]; rfl) (by decide) ?_
    refine th_iload_n C dc_O_fits_96 rfl rfl ?_
    refine th_iconst (v := 0) C dc_O_fits_97 th_c_0 ?_
    refine th_iconst (v := 3) C dc_O_fits_98 th_c_3 ?_
    refine tq_callSp C (p_O_is l hl I a ((0 : Int32)) ((3 : Int32))) ok_O_117 rfl (by decide) dc_O_fits_99 rfl (fun x3 p3 => ?_)
    try simp only [th_l_0, th_l_3] at p3
    exact th_zret C hQ dc_O_fits_102 (th_zn (by omega)) (by decide) (by decide) ⟨_, rfl, rfl, (by (try dsimp only); unfold th_valid; first | omega | (dsimp only; omega))⟩
  · refine th_tableIn (tgt := 103) C dc_O_fits_1 (by omega) (by omega) (by rw [w1]; rfl) (by decide) ?_
    refine th_iload_n C dc_O_fits_103 rfl rfl ?_
    refine th_iconst (v := 0) C dc_O_fits_104 th_c_0 ?_
    refine th_iconst (v := 3) C dc_O_fits_105 th_c_3 ?_
    refine tq_callSp C (p_O_is l hl I a ((0 : Int32)) ((3 : Int32))) ok_O_117 rfl (by decide) dc_O_fits_106 rfl (fun x4 p4 => ?_)
    try simp only [th_l_0, th_l_3] at p4
    refine tq_if_eq (tgt := 125) C dc_O_fits_109 (by decide) rfl (fun c5 => ?_) (fun c5 => ?_)
    · refine th_iconst (v := 0) C dc_O_fits_125 th_c_0 ?_
      exact th_zret C hQ dc_O_fits_126 (rfl) (by decide) (by decide) ⟨_, rfl, rfl, (by have := th_l_0; (try dsimp only); unfold th_valid; first | omega | (dsimp only; omega))⟩
    · refine th_iload_n C dc_O_fits_112 rfl rfl ?_
      refine th_iconst (v := 0) C dc_O_fits_113 th_c_0 ?_
      refine th_iconst (v := 3) C dc_O_fits_114 th_c_3 ?_
      refine tq_callSp C (p_O_is l hl I b ((0 : Int32)) ((3 : Int32))) ok_O_117 rfl (by decide) dc_O_fits_115 rfl (fun x6 p6 => ?_)
      try simp only [th_l_0, th_l_3] at p6
      refine tq_if_eq (tgt := 125) C dc_O_fits_118 (by decide) rfl (fun c7 => ?_) (fun c7 => ?_)
      · refine th_iconst (v := 0) C dc_O_fits_125 th_c_0 ?_
        exact th_zret C hQ dc_O_fits_126 (rfl) (by decide) (by decide) ⟨_, rfl, rfl, (by have := th_l_0; (try dsimp only); unfold th_valid; first | omega | (dsimp only; omega))⟩
      · refine th_iconst (v := 1) C dc_O_fits_121 th_c_1 ?_
        refine th_goto (tgt := 126) C dc_O_fits_122 (by decide) ?_
        exact th_zret C hQ dc_O_fits_126 (rfl) (by decide) (by decide) ⟨_, rfl, rfl, (by have := th_l_1; (try dsimp only); unfold th_valid; first | omega | (dsimp only; omega))⟩
  · refine th_tableIn (tgt := 96) C dc_O_fits_1 (by omega) (by omega) (by rw [w1]; rfl) (by decide) ?_
    refine th_iload_n C dc_O_fits_96 rfl rfl ?_
    refine th_iconst (v := 0) C dc_O_fits_97 th_c_0 ?_
    refine th_iconst (v := 3) C dc_O_fits_98 th_c_3 ?_
    refine tq_callSp C (p_O_is l hl I a ((0 : Int32)) ((3 : Int32))) ok_O_117 rfl (by decide) dc_O_fits_99 rfl (fun x8 p8 => ?_)
    try simp only [th_l_0, th_l_3] at p8
    exact th_zret C hQ dc_O_fits_102 (th_zn (by omega)) (by decide) (by decide) ⟨_, rfl, rfl, (by (try dsimp only); unfold th_valid; first | omega | (dsimp only; omega))⟩
  · refine th_tableIn (tgt := 96) C dc_O_fits_1 (by omega) (by omega) (by rw [w1]; rfl) (by decide) ?_
    refine th_iload_n C dc_O_fits_96 rfl rfl ?_
    refine th_iconst (v := 0) C dc_O_fits_97 th_c_0 ?_
    refine th_iconst (v := 3) C dc_O_fits_98 th_c_3 ?_
    refine tq_callSp C (p_O_is l hl I a ((0 : Int32)) ((3 : Int32))) ok_O_117 rfl (by decide) dc_O_fits_99 rfl (fun x9 p9 => ?_)
    try simp only [th_l_0, th_l_3] at p9
    exact th_zret C hQ dc_O_fits_102 (th_zn (by omega)) (by decide) (by decide) ⟨_, rfl, rfl, (by (try dsimp only); unfold th_valid; first | omega | (dsimp only; omega))⟩
  · refine th_tableIn (tgt := 127) C dc_O_fits_1 (by omega) (by omega) (by rw [w1]; rfl) (by decide) ?_
    refine th_iload_n C dc_O_fits_127 rfl rfl ?_
    refine th_iconst (v := 0) C dc_O_fits_128 th_c_0 ?_
    refine th_iconst (v := 2) C dc_O_fits_129 th_c_2 ?_
    refine tq_callSp C (p_O_is l hl I a ((0 : Int32)) ((2 : Int32))) ok_O_117 rfl (by decide) dc_O_fits_130 rfl (fun x10 p10 => ?_)
    try simp only [th_l_0, th_l_2] at p10
    exact th_zret C hQ dc_O_fits_133 (th_zn (by omega)) (by decide) (by decide) ⟨_, rfl, rfl, (by (try dsimp only); unfold th_valid; first | omega | (dsimp only; omega))⟩
  · refine th_tableIn (tgt := 127) C dc_O_fits_1 (by omega) (by omega) (by rw [w1]; rfl) (by decide) ?_
    refine th_iload_n C dc_O_fits_127 rfl rfl ?_
    refine th_iconst (v := 0) C dc_O_fits_128 th_c_0 ?_
    refine th_iconst (v := 2) C dc_O_fits_129 th_c_2 ?_
    refine tq_callSp C (p_O_is l hl I a ((0 : Int32)) ((2 : Int32))) ok_O_117 rfl (by decide) dc_O_fits_130 rfl (fun x11 p11 => ?_)
    try simp only [th_l_0, th_l_2] at p11
    exact th_zret C hQ dc_O_fits_133 (th_zn (by omega)) (by decide) (by decide) ⟨_, rfl, rfl, (by (try dsimp only); unfold th_valid; first | omega | (dsimp only; omega))⟩
  · refine th_tableIn (tgt := 134) C dc_O_fits_1 (by omega) (by omega) (by rw [w1]; rfl) (by decide) ?_
    refine th_iload_n C dc_O_fits_134 rfl rfl ?_
    refine th_iconst (v := 0) C dc_O_fits_135 th_c_0 ?_
    refine th_iconst (v := 2) C dc_O_fits_136 th_c_2 ?_
    refine tq_callSp C (p_O_is l hl I a ((0 : Int32)) ((2 : Int32))) ok_O_117 rfl (by decide) dc_O_fits_137 rfl (fun x12 p12 => ?_)
    try simp only [th_l_0, th_l_2] at p12
    refine tq_if_eq (tgt := 156) C dc_O_fits_140 (by decide) rfl (fun c13 => ?_) (fun c13 => ?_)
    · refine th_iconst (v := 0) C dc_O_fits_156 th_c_0 ?_
      exact th_zret C hQ dc_O_fits_157 (rfl) (by decide) (by decide) ⟨_, rfl, rfl, (by have := th_l_0; (try dsimp only); unfold th_valid; first | omega | (dsimp only; omega))⟩
    · refine th_iload_n C dc_O_fits_143 rfl rfl ?_
      refine th_iconst (v := 0) C dc_O_fits_144 th_c_0 ?_
      refine th_iconst (v := 3) C dc_O_fits_145 th_c_3 ?_
      refine tq_callSp C (p_O_is l hl I b ((0 : Int32)) ((3 : Int32))) ok_O_117 rfl (by decide) dc_O_fits_146 rfl (fun x14 p14 => ?_)
      try simp only [th_l_0, th_l_3] at p14
      refine tq_if_eq (tgt := 156) C dc_O_fits_149 (by decide) rfl (fun c15 => ?_) (fun c15 => ?_)
      · refine th_iconst (v := 0) C dc_O_fits_156 th_c_0 ?_
        exact th_zret C hQ dc_O_fits_157 (rfl) (by decide) (by decide) ⟨_, rfl, rfl, (by have := th_l_0; (try dsimp only); unfold th_valid; first | omega | (dsimp only; omega))⟩
      · refine th_iconst (v := 1) C dc_O_fits_152 th_c_1 ?_
        refine th_goto (tgt := 157) C dc_O_fits_153 (by decide) ?_
        exact th_zret C hQ dc_O_fits_157 (rfl) (by decide) (by decide) ⟨_, rfl, rfl, (by have := th_l_1; (try dsimp only); unfold th_valid; first | omega | (dsimp only; omega))⟩
  · refine th_tableIn (tgt := 158) C dc_O_fits_1 (by omega) (by omega) (by rw [w1]; rfl) (by decide) ?_
    refine th_iload_n C dc_O_fits_158 rfl rfl ?_
    refine th_iconst (v := 0) C dc_O_fits_159 th_c_0 ?_
    refine th_iconst (v := 2) C dc_O_fits_160 th_c_2 ?_
    refine tq_callSp C (p_O_is l hl I a ((0 : Int32)) ((2 : Int32))) ok_O_117 rfl (by decide) dc_O_fits_161 rfl (fun x16 p16 => ?_)
    try simp only [th_l_0, th_l_2] at p16
    refine tq_if_eq (tgt := 180) C dc_O_fits_164 (by decide) rfl (fun c17 => ?_) (fun c17 => ?_)
    · refine th_iconst (v := 0) C dc_O_fits_180 th_c_0 ?_
      exact th_zret C hQ dc_O_fits_181 (rfl) (by decide) (by decide) ⟨_, rfl, rfl, (by have := th_l_0; (try dsimp only); unfold th_valid; first | omega | (dsimp only; omega))⟩
    · refine th_iload_n C dc_O_fits_167 rfl rfl ?_
      refine th_iconst (v := 0) C dc_O_fits_168 th_c_0 ?_
      refine th_iconst (v := 2) C dc_O_fits_169 th_c_2 ?_
      refine tq_callSp C (p_O_is l hl I b ((0 : Int32)) ((2 : Int32))) ok_O_117 rfl (by decide) dc_O_fits_170 rfl (fun x18 p18 => ?_)
      try simp only [th_l_0, th_l_2] at p18
      refine tq_if_eq (tgt := 180) C dc_O_fits_173 (by decide) rfl (fun c19 => ?_) (fun c19 => ?_)
      · refine th_iconst (v := 0) C dc_O_fits_180 th_c_0 ?_
        exact th_zret C hQ dc_O_fits_181 (rfl) (by decide) (by decide) ⟨_, rfl, rfl, (by have := th_l_0; (try dsimp only); unfold th_valid; first | omega | (dsimp only; omega))⟩
      · refine th_iconst (v := 1) C dc_O_fits_176 th_c_1 ?_
        refine th_goto (tgt := 181) C dc_O_fits_177 (by decide) ?_
        exact th_zret C hQ dc_O_fits_181 (rfl) (by decide) (by decide) ⟨_, rfl, rfl, (by have := th_l_1; (try dsimp only); unfold th_valid; first | omega | (dsimp only; omega))⟩
  · refine th_tableIn (tgt := 127) C dc_O_fits_1 (by omega) (by omega) (by rw [w1]; rfl) (by decide) ?_
    refine th_iload_n C dc_O_fits_127 rfl rfl ?_
    refine th_iconst (v := 0) C dc_O_fits_128 th_c_0 ?_
    refine th_iconst (v := 2) C dc_O_fits_129 th_c_2 ?_
    refine tq_callSp C (p_O_is l hl I a ((0 : Int32)) ((2 : Int32))) ok_O_117 rfl (by decide) dc_O_fits_130 rfl (fun x20 p20 => ?_)
    try simp only [th_l_0, th_l_2] at p20
    exact th_zret C hQ dc_O_fits_133 (th_zn (by omega)) (by decide) (by decide) ⟨_, rfl, rfl, (by (try dsimp only); unfold th_valid; first | omega | (dsimp only; omega))⟩
  · refine th_tableIn (tgt := 127) C dc_O_fits_1 (by omega) (by omega) (by rw [w1]; rfl) (by decide) ?_
    refine th_iload_n C dc_O_fits_127 rfl rfl ?_
    refine th_iconst (v := 0) C dc_O_fits_128 th_c_0 ?_
    refine th_iconst (v := 2) C dc_O_fits_129 th_c_2 ?_
    refine tq_callSp C (p_O_is l hl I a ((0 : Int32)) ((2 : Int32))) ok_O_117 rfl (by decide) dc_O_fits_130 rfl (fun x21 p21 => ?_)
    try simp only [th_l_0, th_l_2] at p21
    exact th_zret C hQ dc_O_fits_133 (th_zn (by omega)) (by decide) (by decide) ⟨_, rfl, rfl, (by (try dsimp only); unfold th_valid; first | omega | (dsimp only; omega))⟩
  · refine th_tableIn (tgt := 182) C dc_O_fits_1 (by omega) (by omega) (by rw [w1]; rfl) (by decide) ?_
    refine th_iload_n C dc_O_fits_182 rfl rfl ?_
    refine th_iconst (v := 0) C dc_O_fits_183 th_c_0 ?_
    refine th_iconst (v := 4) C dc_O_fits_184 th_c_4 ?_
    refine tq_callSp C (p_O_is l hl I a ((0 : Int32)) ((4 : Int32))) ok_O_117 rfl (by decide) dc_O_fits_185 rfl (fun x22 p22 => ?_)
    try simp only [th_l_0, th_l_4] at p22
    exact th_zret C hQ dc_O_fits_188 (th_zn (by omega)) (by decide) (by decide) ⟨_, rfl, rfl, (by (try dsimp only); unfold th_valid; first | omega | (dsimp only; omega))⟩
  · refine th_tableIn (tgt := 189) C dc_O_fits_1 (by omega) (by omega) (by rw [w1]; rfl) (by decide) ?_
    refine th_iload_n C dc_O_fits_189 rfl rfl ?_
    refine th_iconst (v := 0) C dc_O_fits_190 th_c_0 ?_
    refine th_iconst (v := 4) C dc_O_fits_191 th_c_4 ?_
    refine tq_callSp C (p_O_is l hl I a ((0 : Int32)) ((4 : Int32))) ok_O_117 rfl (by decide) dc_O_fits_192 rfl (fun x23 p23 => ?_)
    try simp only [th_l_0, th_l_4] at p23
    refine tq_if_eq (tgt := 211) C dc_O_fits_195 (by decide) rfl (fun c24 => ?_) (fun c24 => ?_)
    · refine th_iconst (v := 0) C dc_O_fits_211 th_c_0 ?_
      exact th_zret C hQ dc_O_fits_212 (rfl) (by decide) (by decide) ⟨_, rfl, rfl, (by have := th_l_0; (try dsimp only); unfold th_valid; first | omega | (dsimp only; omega))⟩
    · refine th_iload_n C dc_O_fits_198 rfl rfl ?_
      refine th_iconst (v := 0) C dc_O_fits_199 th_c_0 ?_
      refine th_iconst (v := 3) C dc_O_fits_200 th_c_3 ?_
      refine tq_callSp C (p_O_is l hl I b ((0 : Int32)) ((3 : Int32))) ok_O_117 rfl (by decide) dc_O_fits_201 rfl (fun x25 p25 => ?_)
      try simp only [th_l_0, th_l_3] at p25
      refine tq_if_eq (tgt := 211) C dc_O_fits_204 (by decide) rfl (fun c26 => ?_) (fun c26 => ?_)
      · refine th_iconst (v := 0) C dc_O_fits_211 th_c_0 ?_
        exact th_zret C hQ dc_O_fits_212 (rfl) (by decide) (by decide) ⟨_, rfl, rfl, (by have := th_l_0; (try dsimp only); unfold th_valid; first | omega | (dsimp only; omega))⟩
      · refine th_iconst (v := 1) C dc_O_fits_207 th_c_1 ?_
        refine th_goto (tgt := 212) C dc_O_fits_208 (by decide) ?_
        exact th_zret C hQ dc_O_fits_212 (rfl) (by decide) (by decide) ⟨_, rfl, rfl, (by have := th_l_1; (try dsimp only); unfold th_valid; first | omega | (dsimp only; omega))⟩
  · refine th_tableIn (tgt := 182) C dc_O_fits_1 (by omega) (by omega) (by rw [w1]; rfl) (by decide) ?_
    refine th_iload_n C dc_O_fits_182 rfl rfl ?_
    refine th_iconst (v := 0) C dc_O_fits_183 th_c_0 ?_
    refine th_iconst (v := 4) C dc_O_fits_184 th_c_4 ?_
    refine tq_callSp C (p_O_is l hl I a ((0 : Int32)) ((4 : Int32))) ok_O_117 rfl (by decide) dc_O_fits_185 rfl (fun x27 p27 => ?_)
    try simp only [th_l_0, th_l_4] at p27
    exact th_zret C hQ dc_O_fits_188 (th_zn (by omega)) (by decide) (by decide) ⟨_, rfl, rfl, (by (try dsimp only); unfold th_valid; first | omega | (dsimp only; omega))⟩
  · refine th_tableIn (tgt := 213) C dc_O_fits_1 (by omega) (by omega) (by rw [w1]; rfl) (by decide) ?_
    refine th_iload_n C dc_O_fits_213 rfl rfl ?_
    refine th_iconst (v := 0) C dc_O_fits_214 th_c_0 ?_
    refine th_bipush (v := 24) C dc_O_fits_215 th_b_24 ?_
    refine tq_callSp C (p_O_is l hl I a ((0 : Int32)) ((24 : Int32))) ok_O_117 rfl (by decide) dc_O_fits_217 rfl (fun x28 p28 => ?_)
    try simp only [th_l_0, th_l_24] at p28
    exact th_zret C hQ dc_O_fits_220 (th_zn (by omega)) (by decide) (by decide) ⟨_, rfl, rfl, (by (try dsimp only); unfold th_valid; first | omega | (dsimp only; omega))⟩
  · refine th_tableIn (tgt := 96) C dc_O_fits_1 (by omega) (by omega) (by rw [w1]; rfl) (by decide) ?_
    refine th_iload_n C dc_O_fits_96 rfl rfl ?_
    refine th_iconst (v := 0) C dc_O_fits_97 th_c_0 ?_
    refine th_iconst (v := 3) C dc_O_fits_98 th_c_3 ?_
    refine tq_callSp C (p_O_is l hl I a ((0 : Int32)) ((3 : Int32))) ok_O_117 rfl (by decide) dc_O_fits_99 rfl (fun x29 p29 => ?_)
    try simp only [th_l_0, th_l_3] at p29
    exact th_zret C hQ dc_O_fits_102 (th_zn (by omega)) (by decide) (by decide) ⟨_, rfl, rfl, (by (try dsimp only); unfold th_valid; first | omega | (dsimp only; omega))⟩
  · refine th_tableIn (tgt := 213) C dc_O_fits_1 (by omega) (by omega) (by rw [w1]; rfl) (by decide) ?_
    refine th_iload_n C dc_O_fits_213 rfl rfl ?_
    refine th_iconst (v := 0) C dc_O_fits_214 th_c_0 ?_
    refine th_bipush (v := 24) C dc_O_fits_215 th_b_24 ?_
    refine tq_callSp C (p_O_is l hl I a ((0 : Int32)) ((24 : Int32))) ok_O_117 rfl (by decide) dc_O_fits_217 rfl (fun x30 p30 => ?_)
    try simp only [th_l_0, th_l_24] at p30
    exact th_zret C hQ dc_O_fits_220 (th_zn (by omega)) (by decide) (by decide) ⟨_, rfl, rfl, (by (try dsimp only); unfold th_valid; first | omega | (dsimp only; omega))⟩
  · refine th_tableIn (tgt := 221) C dc_O_fits_1 (by omega) (by omega) (by rw [w1]; rfl) (by decide) ?_
    refine th_iload_n C dc_O_fits_221 rfl rfl ?_
    refine th_iconst (v := 0) C dc_O_fits_222 th_c_0 ?_
    refine th_iconst (v := 3) C dc_O_fits_223 th_c_3 ?_
    refine tq_callSp C (p_O_is l hl I a ((0 : Int32)) ((3 : Int32))) ok_O_117 rfl (by decide) dc_O_fits_224 rfl (fun x31 p31 => ?_)
    try simp only [th_l_0, th_l_3] at p31
    refine tq_if_eq (tgt := 244) C dc_O_fits_227 (by decide) rfl (fun c32 => ?_) (fun c32 => ?_)
    · refine th_iconst (v := 0) C dc_O_fits_244 th_c_0 ?_
      exact th_zret C hQ dc_O_fits_245 (rfl) (by decide) (by decide) ⟨_, rfl, rfl, (by have := th_l_0; (try dsimp only); unfold th_valid; first | omega | (dsimp only; omega))⟩
    · refine th_iload_n C dc_O_fits_230 rfl rfl ?_
      refine th_iconst (v := 0) C dc_O_fits_231 th_c_0 ?_
      refine th_bipush (v := 24) C dc_O_fits_232 th_b_24 ?_
      refine tq_callSp C (p_O_is l hl I b ((0 : Int32)) ((24 : Int32))) ok_O_117 rfl (by decide) dc_O_fits_234 rfl (fun x33 p33 => ?_)
      try simp only [th_l_0, th_l_24] at p33
      refine tq_if_eq (tgt := 244) C dc_O_fits_237 (by decide) rfl (fun c34 => ?_) (fun c34 => ?_)
      · refine th_iconst (v := 0) C dc_O_fits_244 th_c_0 ?_
        exact th_zret C hQ dc_O_fits_245 (rfl) (by decide) (by decide) ⟨_, rfl, rfl, (by have := th_l_0; (try dsimp only); unfold th_valid; first | omega | (dsimp only; omega))⟩
      · refine th_iconst (v := 1) C dc_O_fits_240 th_c_1 ?_
        refine th_goto (tgt := 245) C dc_O_fits_241 (by decide) ?_
        exact th_zret C hQ dc_O_fits_245 (rfl) (by decide) (by decide) ⟨_, rfl, rfl, (by have := th_l_1; (try dsimp only); unfold th_valid; first | omega | (dsimp only; omega))⟩
  · refine th_tableIn (tgt := 96) C dc_O_fits_1 (by omega) (by omega) (by rw [w1]; rfl) (by decide) ?_
    refine th_iload_n C dc_O_fits_96 rfl rfl ?_
    refine th_iconst (v := 0) C dc_O_fits_97 th_c_0 ?_
    refine th_iconst (v := 3) C dc_O_fits_98 th_c_3 ?_
    refine tq_callSp C (p_O_is l hl I a ((0 : Int32)) ((3 : Int32))) ok_O_117 rfl (by decide) dc_O_fits_99 rfl (fun x35 p35 => ?_)
    try simp only [th_l_0, th_l_3] at p35
    exact th_zret C hQ dc_O_fits_102 (th_zn (by omega)) (by decide) (by decide) ⟨_, rfl, rfl, (by (try dsimp only); unfold th_valid; first | omega | (dsimp only; omega))⟩
  · refine th_tableIn (tgt := 96) C dc_O_fits_1 (by omega) (by omega) (by rw [w1]; rfl) (by decide) ?_
    refine th_iload_n C dc_O_fits_96 rfl rfl ?_
    refine th_iconst (v := 0) C dc_O_fits_97 th_c_0 ?_
    refine th_iconst (v := 3) C dc_O_fits_98 th_c_3 ?_
    refine tq_callSp C (p_O_is l hl I a ((0 : Int32)) ((3 : Int32))) ok_O_117 rfl (by decide) dc_O_fits_99 rfl (fun x36 p36 => ?_)
    try simp only [th_l_0, th_l_3] at p36
    exact th_zret C hQ dc_O_fits_102 (th_zn (by omega)) (by decide) (by decide) ⟨_, rfl, rfl, (by (try dsimp only); unfold th_valid; first | omega | (dsimp only; omega))⟩
  · refine th_tableOut (tgt := 246) C dc_O_fits_1 w1 (by decide) ?_
    refine th_iload_n C dc_O_fits_246 rfl rfl ?_
    refine th_bipush (v := 20) C dc_O_fits_247 th_b_20 ?_
    refine tq_icmp_ne (tgt := 256) C dc_O_fits_249 (by decide) rfl th_l_20 (fun c37 => ?_) (fun c37 => ?_)
    · refine th_iconst (v := 0) C dc_O_fits_256 th_c_0 ?_
      exact th_zret C hQ dc_O_fits_257 (rfl) (by decide) (by decide) ⟨_, rfl, rfl, (by have := th_l_0; (try dsimp only); unfold th_valid; first | omega | (dsimp only; omega))⟩
    · refine th_iconst (v := 1) C dc_O_fits_252 th_c_1 ?_
      refine th_goto (tgt := 257) C dc_O_fits_253 (by decide) ?_
      exact th_zret C hQ dc_O_fits_257 (rfl) (by decide) (by decide) ⟨_, rfl, rfl, (by have := th_l_1; (try dsimp only); unfold th_valid; first | omega | (dsimp only; omega))⟩

set_option maxRecDepth 100000 in
set_option maxHeartbeats 4000000 in
theorem p_O_refuse (l : Launch) (hl : l.stackTraces = false) {A : th_I} (I : th_I) (c : Int32) (hI : th_Of A I) : th_F l yn_O_refuse cb_O_refuse 2 (some .int) { frames := 0, cells := 0, slots := 0, locals := 0 } [.inr (some (20, 0)), .inl c] (th_m I) (th_ri (fun x J => (x.toInt = 0 ∧ (J 20 0 34).toInt = c.toInt) ∧ ∀ i k, J 17 i k = A 17 i k)) := by
  refine th_of hl (by decide +kernel) (Nat.le_of_ble_eq_true rfl) (fun z C hQ hN => ?_)
  show th_G l z 2 0 [(0, .inr (some (20, 0))), (1, .inl c)] [] (th_m I) 0 0
  refine th_aload_n C dc_O_refuse_0 rfl rfl ?_
  refine th_iload_n C dc_O_refuse_1 rfl rfl ?_
  refine tq_putI C dc_O_refuse_2 cl_20 fd_O_114 rfl (show 0 < 1 from by omega) rfl rfl ?_
  refine th_gen (P := fun J => (∀ i k, J 17 i k = A 17 i k) ∧ J = th_u I 20 0 34 c) ⟨fun i k => (th_u_tag (by decide)).trans (hI.2 i k), rfl⟩ (fun I1 fI1 => ?_)
  obtain ⟨fI1, u1⟩ := fI1
  have e1 : c = I1 20 0 34 := by rw [u1, th_u_eq]
  have g1 : c.toInt = (I1 20 0 34).toInt := by rw [← e1]
  refine th_iconst (v := 0) C dc_O_refuse_5 th_c_0 ?_
  exact th_iret C hQ dc_O_refuse_6 (by decide) (by decide) ⟨_, _, rfl, rfl, (by have := th_l_0; first | omega | (dsimp only; omega)), fI1⟩

set_option maxRecDepth 100000 in
set_option maxHeartbeats 4000000 in
theorem p_O_thrown (l : Launch) (hl : l.stackTraces = false) (I : th_I) : th_F l yn_O_thrown cb_O_thrown 1 (some .int) { frames := 0, cells := 0, slots := 0, locals := 0 } [.inr (some (20, 0))] (th_m I) (th_rp I (fun x => x.toInt = (I 20 0 34).toInt)) := by
  refine th_of hl (by decide +kernel) (Nat.le_of_ble_eq_true rfl) (fun z C hQ hN => ?_)
  show th_G l z 1 0 [(0, .inr (some (20, 0)))] [] (th_m I) 0 0
  refine th_aload_n C dc_O_thrown_0 rfl rfl ?_
  refine tq_getI C dc_O_thrown_1 cl_20 fd_O_114 rfl (show 0 < 1 from by omega) (fun x1 e1 => ?_)
  have g1 : x1.toInt = (I 20 0 34).toInt := by rw [e1]
  exact th_iret C hQ dc_O_thrown_4 (by decide) (by decide) ⟨_, rfl, rfl, (by first | omega | (dsimp only; omega))⟩

set_option maxRecDepth 100000 in
set_option maxHeartbeats 4000000 in
theorem p_O_alive (l : Launch) (hl : l.stackTraces = false) {A : th_I} (I : th_I) (t : Int32) (hI : th_Of A I) (ht : 0 ≤ t.toInt ∧ t.toInt ≤ 4) : th_F l yn_O_alive cb_O_alive 2 (some .boolean) { frames := 0, cells := 0, slots := 0, locals := 0 } [.inr (some (20, 0)), .inl t] (th_m I) (th_rp I (fun x => x.toInt = 0)) := by
  refine th_of hl (by decide +kernel) (Nat.le_of_ble_eq_true rfl) (fun z C hQ hN => ?_)
  show th_G l z 2 0 [(0, .inr (some (20, 0))), (1, .inl t)] [] (th_m I) 0 0
  refine th_aload_n C dc_O_alive_0 rfl rfl ?_
  refine tq_getR C dc_O_alive_1 cl_20 fd_O_43 rfl (show 0 < 1 from by omega) rfl ?_
  refine th_iload_n C dc_O_alive_4 rfl rfl ?_
  obtain ⟨n2, m2⟩ := th_nat (a := t.toInt) (by omega)
  have e1 : (0 : Int32) = I 32 0 n2 := ((hI.1 32 0 n2 (by decide)).trans rfl).symm
  refine tq_ialdE C dc_O_alive_5 rfl (fun _ => rfl) (show 0 < 1 from by omega) rfl m2 (show n2 < 5 from by omega) e1 ?_
  refine tq_if_eq (tgt := 23) C dc_O_alive_6 (by decide) th_l_0 (fun c3 => ?_) (fun c3 => ?_)
  · refine th_iconst (v := 0) C dc_O_alive_23 th_c_0 ?_
    exact th_zret C hQ dc_O_alive_24 (rfl) (by decide) (by decide) ⟨_, rfl, rfl, (by have := th_l_0; first | omega | (dsimp only; omega))⟩
  · exact absurd c3 (by decide)

set_option maxRecDepth 100000 in
set_option maxHeartbeats 4000000 in
theorem p_O_bound (l : Launch) (hl : l.stackTraces = false) {A : th_I} (I : th_I) (t : Int32) (s : Int32) (hI : th_Of A I) (ht : 0 ≤ t.toInt ∧ t.toInt ≤ 4) : th_F l yn_O_bound cb_O_bound 4 (some .int) { frames := 0, cells := 0, slots := 0, locals := 0 } [.inr (some (20, 0)), .inl t, .inl s] (th_m I) (th_rp I (fun x => x.toInt = -1)) := by
  refine th_of hl (by decide +kernel) (Nat.le_of_ble_eq_true rfl) (fun z C hQ hN => ?_)
  show th_G l z 4 0 [(0, .inr (some (20, 0))), (1, .inl t), (2, .inl s)] [] (th_m I) 0 0
  refine th_aload_n C dc_O_bound_0 rfl rfl ?_
  refine tq_getR C dc_O_bound_1 cl_20 fd_O_31 rfl (show 0 < 1 from by omega) rfl ?_
  refine th_iload_n C dc_O_bound_4 rfl rfl ?_
  obtain ⟨n2, m2⟩ := th_nat (a := t.toInt) (by omega)
  have e1 : (0 : Int32) = I 28 0 n2 := ((hI.1 28 0 n2 (by decide)).trans rfl).symm
  refine tq_ialdE C dc_O_bound_5 rfl (fun _ => rfl) (show 0 < 1 from by omega) rfl m2 (show n2 < 5 from by omega) e1 ?_
  refine th_iconst (v := 1) C dc_O_bound_6 th_c_1 ?_
  refine tq_isub C dc_O_bound_7 th_l_0 th_l_1 (fun x3 e3 a3 => ?_)
  refine th_istore_n (lv' := [(0, .inr (some (20, 0))), (1, .inl t), (2, .inl s), (3, .inl x3)]) C dc_O_bound_8 rfl (by decide) rfl ?_
  refine th_iload_n C dc_O_bound_9 rfl rfl ?_
  refine tq_if_lt (tgt := 41) C dc_O_bound_10 (by decide) rfl (fun c4 => ?_) (fun c4 => ?_)
  · refine th_iconst (v := -1) C dc_O_bound_41 th_c_m1 ?_
    exact th_iret C hQ dc_O_bound_42 (by decide) (by decide) ⟨_, rfl, rfl, (by have := th_l_m1; first | omega | (dsimp only; omega))⟩
  · exact absurd c4 (by omega)

set_option maxRecDepth 100000 in
set_option maxHeartbeats 4000000 in
theorem p_O_get (l : Launch) (hl : l.stackTraces = false) {A : th_I} (I : th_I) (t : Int32) (s : Int32) (hI : th_Of A I) (ht : 0 ≤ t.toInt ∧ t.toInt ≤ 4) (hs : 0 ≤ s.toInt ∧ s.toInt ≤ 3) : th_F l yn_O_get cb_O_get 4 (some .int) { frames := 1, cells := 0, slots := 0, locals := 23 } [.inr (some (20, 0)), .inl t, .inl s] (th_m I) (th_rp I (fun x => x.toInt = 0)) := by
  refine th_of hl (by decide +kernel) (Nat.le_of_ble_eq_true rfl) (fun z C hQ hN => ?_)
  show th_G l z 4 0 [(0, .inr (some (20, 0))), (1, .inl t), (2, .inl s)] [] (th_m I) 0 0
  refine th_aload_n C dc_O_get_0 rfl rfl ?_
  refine th_iload_n C dc_O_get_1 rfl rfl ?_
  refine th_iload_n C dc_O_get_2 rfl rfl ?_
  refine tq_callVp C (p_O_bound l hl I t s hI (by omega)) ok_O_132 cl_20 (show 0 < 1 from by omega) rfl (by decide) dc_O_get_3 rfl (fun x1 p1 => ?_)
  refine th_istore_n (lv' := [(0, .inr (some (20, 0))), (1, .inl t), (2, .inl s), (3, .inl x1)]) C dc_O_get_6 rfl (by decide) rfl ?_
  refine th_iload_n C dc_O_get_7 rfl rfl ?_
  refine tq_if_ge (tgt := 20) C dc_O_get_8 (by decide) rfl (fun c2 => ?_) (fun c2 => ?_)
  · exact absurd c2 (by omega)
  · refine th_aload_n C dc_O_get_11 rfl rfl ?_
    refine tq_getR C dc_O_get_12 cl_20 fd_O_22 rfl (show 0 < 1 from by omega) rfl ?_
    refine th_iload_n C dc_O_get_15 rfl rfl ?_
    obtain ⟨n4, m4⟩ := th_nat (a := s.toInt) (by omega)
    have e3 : (0 : Int32) = I 25 0 n4 := ((hI.1 25 0 n4 (by decide)).trans rfl).symm
    refine tq_ialdE C dc_O_get_16 rfl (fun _ => rfl) (show 0 < 1 from by omega) rfl m4 (show n4 < 4 from by omega) e3 ?_
    refine th_goto (tgt := 26) C dc_O_get_17 (by decide) ?_
    exact th_iret C hQ dc_O_get_26 (by decide) (by decide) ⟨_, rfl, rfl, (by have := th_l_0; first | omega | (dsimp only; omega))⟩

set_option maxRecDepth 100000 in
set_option maxHeartbeats 4000000 in
theorem p_O_begin (l : Launch) (hl : l.stackTraces = false) {A : th_I} (I : th_I) (t : Int32) (hI : th_Of A I) (ht : 0 ≤ t.toInt ∧ t.toInt ≤ 4) : th_F l yn_O_begin cb_O_begin 2 (some .boolean) { frames := 1, cells := 0, slots := 0, locals := 21 } [.inr (some (20, 0)), .inl t] (th_m I) (th_ri (fun x J => (x.toInt = 1 ∧ (J 20 0 34).toInt = 0) ∧ ∀ i k, J 17 i k = A 17 i k)) := by
  refine th_of hl (by decide +kernel) (Nat.le_of_ble_eq_true rfl) (fun z C hQ hN => ?_)
  show th_G l z 2 0 [(0, .inr (some (20, 0))), (1, .inl t)] [] (th_m I) 0 0
  have e0 : (0 : Int32) = I 20 0 34 := ((hI.1 20 0 34 (by decide)).trans rfl).symm
  have g0 : 0 = (I 20 0 34).toInt := by rw [← e0]; exact th_l_0.symm
  refine th_aload_n C dc_O_begin_0 rfl rfl ?_
  refine th_iload_n C dc_O_begin_1 rfl rfl ?_
  refine tq_callVp C (p_O_alive l hl I t hI (by omega)) ok_O_128 cl_20 (show 0 < 1 from by omega) rfl (by decide) dc_O_begin_2 rfl (fun x1 p1 => ?_)
  refine tq_if_eq (tgt := 10) C dc_O_begin_5 (by decide) rfl (fun c2 => ?_) (fun c2 => ?_)
  · refine th_aload_n C dc_O_begin_10 rfl rfl ?_
    refine tq_getR C dc_O_begin_11 cl_20 fd_O_43 rfl (show 0 < 1 from by omega) rfl ?_
    refine th_iload_n C dc_O_begin_14 rfl rfl ?_
    refine th_iconst (v := 1) C dc_O_begin_15 th_c_1 ?_
    obtain ⟨n3, m3⟩ := th_nat (a := t.toInt) (by omega)
    refine tq_iastN C dc_O_begin_16 rfl (fun _ => rfl) (show 0 < 1 from by omega) rfl m3 (show n3 < 5 from by omega) ?_
    refine th_gen (P := fun J => (∀ i k, J 17 i k = A 17 i k) ∧ J = th_u I 32 0 n3 ((1 : Int32))) ⟨fun i k => (th_u_tag (by decide)).trans (hI.2 i k), rfl⟩ (fun I4 fI4 => ?_)
    obtain ⟨fI4, u4⟩ := fI4
    have e5 : (0 : Int32) = I4 20 0 34 := by rw [u4, th_u_tag (by decide)]; exact e0
    have g5 : 0 = (I4 20 0 34).toInt := by rw [← e5]; exact th_l_0.symm
    have e4 : (1 : Int32) = I4 32 0 n3 := by rw [u4, th_u_eq]
    have g4 : 1 = (I4 32 0 n3).toInt := by rw [← e4]; exact th_l_1.symm
    refine th_aload_n C dc_O_begin_17 rfl rfl ?_
    refine tq_getR C dc_O_begin_18 cl_20 fd_O_46 rfl (show 0 < 1 from by omega) rfl ?_
    refine th_iload_n C dc_O_begin_21 rfl rfl ?_
    refine th_iconst (v := 0) C dc_O_begin_22 th_c_0 ?_
    refine tq_iastN C dc_O_begin_23 rfl (fun _ => rfl) (show 0 < 1 from by omega) rfl m3 (show n3 < 5 from by omega) ?_
    refine th_gen (P := fun J => (∀ i k, J 17 i k = A 17 i k) ∧ J = th_u I4 33 0 n3 ((0 : Int32))) ⟨fun i k => (th_u_tag (by decide)).trans (fI4 i k), rfl⟩ (fun I6 fI6 => ?_)
    obtain ⟨fI6, u6⟩ := fI6
    have e7 : (0 : Int32) = I6 20 0 34 := by rw [u6, th_u_tag (by decide)]; exact e5
    have g7 : 0 = (I6 20 0 34).toInt := by rw [← e7]; exact th_l_0.symm
    have e8 : (1 : Int32) = I6 32 0 n3 := by rw [u6, th_u_tag (by decide)]; exact e4
    have g8 : 1 = (I6 32 0 n3).toInt := by rw [← e8]; exact th_l_1.symm
    have e6 : (0 : Int32) = I6 33 0 n3 := by rw [u6, th_u_eq]
    have g6 : 0 = (I6 33 0 n3).toInt := by rw [← e6]; exact th_l_0.symm
    refine th_aload_n C dc_O_begin_24 rfl rfl ?_
    refine tq_getR C dc_O_begin_25 cl_20 fd_O_31 rfl (show 0 < 1 from by omega) rfl ?_
    refine th_iload_n C dc_O_begin_28 rfl rfl ?_
    refine th_iconst (v := 0) C dc_O_begin_29 th_c_0 ?_
    refine tq_iastN C dc_O_begin_30 rfl (fun _ => rfl) (show 0 < 1 from by omega) rfl m3 (show n3 < 5 from by omega) ?_
    refine th_gen (P := fun J => (∀ i k, J 17 i k = A 17 i k) ∧ J = th_u I6 28 0 n3 ((0 : Int32))) ⟨fun i k => (th_u_tag (by decide)).trans (fI6 i k), rfl⟩ (fun I9 fI9 => ?_)
    obtain ⟨fI9, u9⟩ := fI9
    have e10 : (0 : Int32) = I9 20 0 34 := by rw [u9, th_u_tag (by decide)]; exact e7
    have g10 : 0 = (I9 20 0 34).toInt := by rw [← e10]; exact th_l_0.symm
    have e11 : (1 : Int32) = I9 32 0 n3 := by rw [u9, th_u_tag (by decide)]; exact e8
    have g11 : 1 = (I9 32 0 n3).toInt := by rw [← e11]; exact th_l_1.symm
    have e12 : (0 : Int32) = I9 33 0 n3 := by rw [u9, th_u_tag (by decide)]; exact e6
    have g12 : 0 = (I9 33 0 n3).toInt := by rw [← e12]; exact th_l_0.symm
    have e9 : (0 : Int32) = I9 28 0 n3 := by rw [u9, th_u_eq]
    have g9 : 0 = (I9 28 0 n3).toInt := by rw [← e9]; exact th_l_0.symm
    refine th_aload_n C dc_O_begin_31 rfl rfl ?_
    refine tq_getR C dc_O_begin_32 cl_20 fd_O_40 rfl (show 0 < 1 from by omega) rfl ?_
    refine th_iload_n C dc_O_begin_35 rfl rfl ?_
    refine th_iconst (v := 0) C dc_O_begin_36 th_c_0 ?_
    refine tq_iastN C dc_O_begin_37 rfl (fun _ => rfl) (show 0 < 1 from by omega) rfl m3 (show n3 < 5 from by omega) ?_
    refine th_gen (P := fun J => (∀ i k, J 17 i k = A 17 i k) ∧ J = th_u I9 31 0 n3 ((0 : Int32))) ⟨fun i k => (th_u_tag (by decide)).trans (fI9 i k), rfl⟩ (fun I13 fI13 => ?_)
    obtain ⟨fI13, u13⟩ := fI13
    have e14 : (0 : Int32) = I13 20 0 34 := by rw [u13, th_u_tag (by decide)]; exact e10
    have g14 : 0 = (I13 20 0 34).toInt := by rw [← e14]; exact th_l_0.symm
    have e15 : (1 : Int32) = I13 32 0 n3 := by rw [u13, th_u_tag (by decide)]; exact e11
    have g15 : 1 = (I13 32 0 n3).toInt := by rw [← e15]; exact th_l_1.symm
    have e16 : (0 : Int32) = I13 33 0 n3 := by rw [u13, th_u_tag (by decide)]; exact e12
    have g16 : 0 = (I13 33 0 n3).toInt := by rw [← e16]; exact th_l_0.symm
    have e17 : (0 : Int32) = I13 28 0 n3 := by rw [u13, th_u_tag (by decide)]; exact e9
    have g17 : 0 = (I13 28 0 n3).toInt := by rw [← e17]; exact th_l_0.symm
    have e13 : (0 : Int32) = I13 31 0 n3 := by rw [u13, th_u_eq]
    have g13 : 0 = (I13 31 0 n3).toInt := by rw [← e13]; exact th_l_0.symm
    refine th_aload_n C dc_O_begin_38 rfl rfl ?_
    refine tq_getR C dc_O_begin_39 cl_20 fd_O_52 rfl (show 0 < 1 from by omega) rfl ?_
    refine th_iload_n C dc_O_begin_42 rfl rfl ?_
    refine th_bipush (v := 24) C dc_O_begin_43 th_b_24 ?_
    refine tq_iastN C dc_O_begin_45 rfl (fun _ => rfl) (show 0 < 1 from by omega) rfl m3 (show n3 < 5 from by omega) ?_
    refine th_gen (P := fun J => (∀ i k, J 17 i k = A 17 i k) ∧ J = th_u I13 35 0 n3 ((24 : Int32))) ⟨fun i k => (th_u_tag (by decide)).trans (fI13 i k), rfl⟩ (fun I18 fI18 => ?_)
    obtain ⟨fI18, u18⟩ := fI18
    have e19 : (0 : Int32) = I18 20 0 34 := by rw [u18, th_u_tag (by decide)]; exact e14
    have g19 : 0 = (I18 20 0 34).toInt := by rw [← e19]; exact th_l_0.symm
    have e20 : (1 : Int32) = I18 32 0 n3 := by rw [u18, th_u_tag (by decide)]; exact e15
    have g20 : 1 = (I18 32 0 n3).toInt := by rw [← e20]; exact th_l_1.symm
    have e21 : (0 : Int32) = I18 33 0 n3 := by rw [u18, th_u_tag (by decide)]; exact e16
    have g21 : 0 = (I18 33 0 n3).toInt := by rw [← e21]; exact th_l_0.symm
    have e22 : (0 : Int32) = I18 28 0 n3 := by rw [u18, th_u_tag (by decide)]; exact e17
    have g22 : 0 = (I18 28 0 n3).toInt := by rw [← e22]; exact th_l_0.symm
    have e23 : (0 : Int32) = I18 31 0 n3 := by rw [u18, th_u_tag (by decide)]; exact e13
    have g23 : 0 = (I18 31 0 n3).toInt := by rw [← e23]; exact th_l_0.symm
    have e18 : (24 : Int32) = I18 35 0 n3 := by rw [u18, th_u_eq]
    have g18 : 24 = (I18 35 0 n3).toInt := by rw [← e18]; exact th_l_24.symm
    refine th_aload_n C dc_O_begin_46 rfl rfl ?_
    refine tq_getR C dc_O_begin_47 cl_20 fd_O_73 rfl (show 0 < 1 from by omega) rfl ?_
    refine th_iload_n C dc_O_begin_50 rfl rfl ?_
    refine th_iconst (v := 0) C dc_O_begin_51 th_c_0 ?_
    refine tq_zastN C dc_O_begin_52 rfl (fun _ => rfl) (show 0 < 1 from by omega) rfl m3 (show n3 < 5 from by omega) rfl ?_
    refine th_gen (P := fun J => (∀ i k, J 17 i k = A 17 i k) ∧ J = th_u I18 42 0 n3 ((0 : Int32))) ⟨fun i k => (th_u_tag (by decide)).trans (fI18 i k), rfl⟩ (fun I24 fI24 => ?_)
    obtain ⟨fI24, u24⟩ := fI24
    have e25 : (0 : Int32) = I24 20 0 34 := by rw [u24, th_u_tag (by decide)]; exact e19
    have g25 : 0 = (I24 20 0 34).toInt := by rw [← e25]; exact th_l_0.symm
    have e26 : (1 : Int32) = I24 32 0 n3 := by rw [u24, th_u_tag (by decide)]; exact e20
    have g26 : 1 = (I24 32 0 n3).toInt := by rw [← e26]; exact th_l_1.symm
    have e27 : (0 : Int32) = I24 33 0 n3 := by rw [u24, th_u_tag (by decide)]; exact e21
    have g27 : 0 = (I24 33 0 n3).toInt := by rw [← e27]; exact th_l_0.symm
    have e28 : (0 : Int32) = I24 28 0 n3 := by rw [u24, th_u_tag (by decide)]; exact e22
    have g28 : 0 = (I24 28 0 n3).toInt := by rw [← e28]; exact th_l_0.symm
    have e29 : (0 : Int32) = I24 31 0 n3 := by rw [u24, th_u_tag (by decide)]; exact e23
    have g29 : 0 = (I24 31 0 n3).toInt := by rw [← e29]; exact th_l_0.symm
    have e30 : (24 : Int32) = I24 35 0 n3 := by rw [u24, th_u_tag (by decide)]; exact e18
    have g30 : 24 = (I24 35 0 n3).toInt := by rw [← e30]; exact th_l_24.symm
    have e24 : (0 : Int32) = I24 42 0 n3 := by rw [u24, th_u_eq]
    have g24 : 0 = (I24 42 0 n3).toInt := by rw [← e24]; exact th_l_0.symm
    refine th_aload_n C dc_O_begin_53 rfl rfl ?_
    refine tq_getR C dc_O_begin_54 cl_20 fd_O_77 rfl (show 0 < 1 from by omega) rfl ?_
    refine th_iload_n C dc_O_begin_57 rfl rfl ?_
    refine th_iconst (v := 0) C dc_O_begin_58 th_c_0 ?_
    refine tq_zastN C dc_O_begin_59 rfl (fun _ => rfl) (show 0 < 1 from by omega) rfl m3 (show n3 < 5 from by omega) rfl ?_
    refine th_gen (P := fun J => (∀ i k, J 17 i k = A 17 i k) ∧ J = th_u I24 43 0 n3 ((0 : Int32))) ⟨fun i k => (th_u_tag (by decide)).trans (fI24 i k), rfl⟩ (fun I31 fI31 => ?_)
    obtain ⟨fI31, u31⟩ := fI31
    have e32 : (0 : Int32) = I31 20 0 34 := by rw [u31, th_u_tag (by decide)]; exact e25
    have g32 : 0 = (I31 20 0 34).toInt := by rw [← e32]; exact th_l_0.symm
    have e33 : (1 : Int32) = I31 32 0 n3 := by rw [u31, th_u_tag (by decide)]; exact e26
    have g33 : 1 = (I31 32 0 n3).toInt := by rw [← e33]; exact th_l_1.symm
    have e34 : (0 : Int32) = I31 33 0 n3 := by rw [u31, th_u_tag (by decide)]; exact e27
    have g34 : 0 = (I31 33 0 n3).toInt := by rw [← e34]; exact th_l_0.symm
    have e35 : (0 : Int32) = I31 28 0 n3 := by rw [u31, th_u_tag (by decide)]; exact e28
    have g35 : 0 = (I31 28 0 n3).toInt := by rw [← e35]; exact th_l_0.symm
    have e36 : (0 : Int32) = I31 31 0 n3 := by rw [u31, th_u_tag (by decide)]; exact e29
    have g36 : 0 = (I31 31 0 n3).toInt := by rw [← e36]; exact th_l_0.symm
    have e37 : (24 : Int32) = I31 35 0 n3 := by rw [u31, th_u_tag (by decide)]; exact e30
    have g37 : 24 = (I31 35 0 n3).toInt := by rw [← e37]; exact th_l_24.symm
    have e38 : (0 : Int32) = I31 42 0 n3 := by rw [u31, th_u_tag (by decide)]; exact e24
    have g38 : 0 = (I31 42 0 n3).toInt := by rw [← e38]; exact th_l_0.symm
    have e31 : (0 : Int32) = I31 43 0 n3 := by rw [u31, th_u_eq]
    have g31 : 0 = (I31 43 0 n3).toInt := by rw [← e31]; exact th_l_0.symm
    refine th_aload_n C dc_O_begin_60 rfl rfl ?_
    refine tq_getR C dc_O_begin_61 cl_20 fd_O_55 rfl (show 0 < 1 from by omega) rfl ?_
    refine th_iload_n C dc_O_begin_64 rfl rfl ?_
    refine th_iconst (v := 0) C dc_O_begin_65 th_c_0 ?_
    refine tq_iastN C dc_O_begin_66 rfl (fun _ => rfl) (show 0 < 1 from by omega) rfl m3 (show n3 < 5 from by omega) ?_
    refine th_gen (P := fun J => (∀ i k, J 17 i k = A 17 i k) ∧ J = th_u I31 36 0 n3 ((0 : Int32))) ⟨fun i k => (th_u_tag (by decide)).trans (fI31 i k), rfl⟩ (fun I39 fI39 => ?_)
    obtain ⟨fI39, u39⟩ := fI39
    have e40 : (0 : Int32) = I39 20 0 34 := by rw [u39, th_u_tag (by decide)]; exact e32
    have g40 : 0 = (I39 20 0 34).toInt := by rw [← e40]; exact th_l_0.symm
    have e41 : (1 : Int32) = I39 32 0 n3 := by rw [u39, th_u_tag (by decide)]; exact e33
    have g41 : 1 = (I39 32 0 n3).toInt := by rw [← e41]; exact th_l_1.symm
    have e42 : (0 : Int32) = I39 33 0 n3 := by rw [u39, th_u_tag (by decide)]; exact e34
    have g42 : 0 = (I39 33 0 n3).toInt := by rw [← e42]; exact th_l_0.symm
    have e43 : (0 : Int32) = I39 28 0 n3 := by rw [u39, th_u_tag (by decide)]; exact e35
    have g43 : 0 = (I39 28 0 n3).toInt := by rw [← e43]; exact th_l_0.symm
    have e44 : (0 : Int32) = I39 31 0 n3 := by rw [u39, th_u_tag (by decide)]; exact e36
    have g44 : 0 = (I39 31 0 n3).toInt := by rw [← e44]; exact th_l_0.symm
    have e45 : (24 : Int32) = I39 35 0 n3 := by rw [u39, th_u_tag (by decide)]; exact e37
    have g45 : 24 = (I39 35 0 n3).toInt := by rw [← e45]; exact th_l_24.symm
    have e46 : (0 : Int32) = I39 42 0 n3 := by rw [u39, th_u_tag (by decide)]; exact e38
    have g46 : 0 = (I39 42 0 n3).toInt := by rw [← e46]; exact th_l_0.symm
    have e47 : (0 : Int32) = I39 43 0 n3 := by rw [u39, th_u_tag (by decide)]; exact e31
    have g47 : 0 = (I39 43 0 n3).toInt := by rw [← e47]; exact th_l_0.symm
    have e39 : (0 : Int32) = I39 36 0 n3 := by rw [u39, th_u_eq]
    have g39 : 0 = (I39 36 0 n3).toInt := by rw [← e39]; exact th_l_0.symm
    refine th_aload_n C dc_O_begin_67 rfl rfl ?_
    refine tq_getR C dc_O_begin_68 cl_20 fd_O_58 rfl (show 0 < 1 from by omega) rfl ?_
    refine th_iload_n C dc_O_begin_71 rfl rfl ?_
    refine th_dup2 C dc_O_begin_72 ?_
    refine tq_ialdN C dc_O_begin_73 rfl (fun _ => rfl) (show 0 < 1 from by omega) rfl m3 (show n3 < 5 from by omega) (fun x48 e48 => ?_)
    have g48 : x48.toInt = (I39 37 0 n3).toInt := by rw [e48]
    refine th_iconst (v := 1) C dc_O_begin_74 th_c_1 ?_
    refine tq_iadd C dc_O_begin_75 rfl th_l_1 (fun x49 e49 a49 => ?_)
    refine tq_iastN C dc_O_begin_76 rfl (fun _ => rfl) (show 0 < 1 from by omega) rfl m3 (show n3 < 5 from by omega) ?_
    refine th_gen (P := fun J => (∀ i k, J 17 i k = A 17 i k) ∧ J = th_u I39 37 0 n3 x49) ⟨fun i k => (th_u_tag (by decide)).trans (fI39 i k), rfl⟩ (fun I50 fI50 => ?_)
    obtain ⟨fI50, u50⟩ := fI50
    have e51 : (0 : Int32) = I50 20 0 34 := by rw [u50, th_u_tag (by decide)]; exact e40
    have g51 : 0 = (I50 20 0 34).toInt := by rw [← e51]; exact th_l_0.symm
    have e52 : (1 : Int32) = I50 32 0 n3 := by rw [u50, th_u_tag (by decide)]; exact e41
    have g52 : 1 = (I50 32 0 n3).toInt := by rw [← e52]; exact th_l_1.symm
    have e53 : (0 : Int32) = I50 33 0 n3 := by rw [u50, th_u_tag (by decide)]; exact e42
    have g53 : 0 = (I50 33 0 n3).toInt := by rw [← e53]; exact th_l_0.symm
    have e54 : (0 : Int32) = I50 28 0 n3 := by rw [u50, th_u_tag (by decide)]; exact e43
    have g54 : 0 = (I50 28 0 n3).toInt := by rw [← e54]; exact th_l_0.symm
    have e55 : (0 : Int32) = I50 31 0 n3 := by rw [u50, th_u_tag (by decide)]; exact e44
    have g55 : 0 = (I50 31 0 n3).toInt := by rw [← e55]; exact th_l_0.symm
    have e56 : (24 : Int32) = I50 35 0 n3 := by rw [u50, th_u_tag (by decide)]; exact e45
    have g56 : 24 = (I50 35 0 n3).toInt := by rw [← e56]; exact th_l_24.symm
    have e57 : (0 : Int32) = I50 42 0 n3 := by rw [u50, th_u_tag (by decide)]; exact e46
    have g57 : 0 = (I50 42 0 n3).toInt := by rw [← e57]; exact th_l_0.symm
    have e58 : (0 : Int32) = I50 43 0 n3 := by rw [u50, th_u_tag (by decide)]; exact e47
    have g58 : 0 = (I50 43 0 n3).toInt := by rw [← e58]; exact th_l_0.symm
    have e59 : (0 : Int32) = I50 36 0 n3 := by rw [u50, th_u_tag (by decide)]; exact e39
    have g59 : 0 = (I50 36 0 n3).toInt := by rw [← e59]; exact th_l_0.symm
    have e50 : x49 = I50 37 0 n3 := by rw [u50, th_u_eq]
    have g50 : x49.toInt = (I50 37 0 n3).toInt := by rw [← e50]
    refine th_iconst (v := 1) C dc_O_begin_77 th_c_1 ?_
    exact th_zret C hQ dc_O_begin_78 (rfl) (by decide) (by decide) ⟨_, _, rfl, rfl, (by have := th_l_1; first | omega | (dsimp only; omega)), fI50⟩
  · exact absurd c2 (by omega)

set_option maxRecDepth 100000 in
set_option maxHeartbeats 4000000 in
theorem p_O_interrupted (l : Launch) (hl : l.stackTraces = false) {A : th_I} (I : th_I) (t : Int32) (hI : th_Of A I) (ht : 0 ≤ t.toInt ∧ t.toInt ≤ 4) : th_F l yn_O_interrupted cb_O_interrupted 2 (some .boolean) { frames := 1, cells := 0, slots := 0, locals := 21 } [.inr (some (20, 0)), .inl t] (th_m I) (th_rp I (fun x => x.toInt = 0)) := by
  refine th_of hl (by decide +kernel) (Nat.le_of_ble_eq_true rfl) (fun z C hQ hN => ?_)
  show th_G l z 2 0 [(0, .inr (some (20, 0))), (1, .inl t)] [] (th_m I) 0 0
  refine th_aload_n C dc_O_interrupted_0 rfl rfl ?_
  refine th_iload_n C dc_O_interrupted_1 rfl rfl ?_
  refine tq_callVp C (p_O_alive l hl I t hI (by omega)) ok_O_128 cl_20 (show 0 < 1 from by omega) rfl (by decide) dc_O_interrupted_2 rfl (fun x1 p1 => ?_)
  refine tq_if_ne (tgt := 10) C dc_O_interrupted_5 (by decide) rfl (fun c2 => ?_) (fun c2 => ?_)
  · exact absurd c2 (by omega)
  · refine th_iconst (v := 0) C dc_O_interrupted_8 th_c_0 ?_
    exact th_zret C hQ dc_O_interrupted_9 (rfl) (by decide) (by decide) ⟨_, rfl, rfl, (by have := th_l_0; first | omega | (dsimp only; omega))⟩

set_option maxRecDepth 100000 in
set_option maxHeartbeats 4000000 in
theorem p_O_ready (l : Launch) (hl : l.stackTraces = false) {A : th_I} (I : th_I) (hI : th_Of A I) : th_F l yn_O_ready cb_O_ready 2 (some .int) { frames := 0, cells := 0, slots := 0, locals := 0 } [.inr (some (20, 0))] (th_m I) (th_rp I (fun x => x.toInt = -1)) := by
  refine th_of hl (by decide +kernel) (Nat.le_of_ble_eq_true rfl) (fun z C hQ hN => ?_)
  show th_G l z 2 0 [(0, .inr (some (20, 0)))] [] (th_m I) 0 0
  refine th_iconst (v := 1) C dc_O_ready_0 th_c_1 ?_
  refine th_istore_n (lv' := [(0, .inr (some (20, 0))), (1, .inl ((1 : Int32)))]) C dc_O_ready_1 rfl (by decide) rfl ?_
  have L2 : ∀ (N : Nat) (k : Int32), (1 ≤ k.toInt ∧ k.toInt ≤ 6) → (6 - k.toInt).toNat < N → th_G l z 2 2 [(0, .inr (some (20, 0))), (1, .inl k)] [] (th_m I) 0 0 := by
    intro N
    induction N with
    | zero => intro k h1 hm; exact absurd hm (Nat.not_lt_zero _)
    | succ N ih =>
      intro k h1 hm
      refine th_iload_n C dc_O_ready_2 rfl rfl ?_
      refine th_bipush (v := 6) C dc_O_ready_3 th_b_6 ?_
      refine tq_icmp_ge (tgt := 50) C dc_O_ready_5 (by decide) rfl th_l_6 (fun c2 => ?_) (fun c2 => ?_)
      · refine th_iconst (v := -1) C dc_O_ready_50 th_c_m1 ?_
        exact th_iret C hQ dc_O_ready_51 (by decide) (by decide) ⟨_, rfl, rfl, (by have := th_l_m1; first | omega | (dsimp only; omega))⟩
      · refine th_aload_n C dc_O_ready_8 rfl rfl ?_
        refine tq_getR C dc_O_ready_9 cl_20 fd_O_43 rfl (show 0 < 1 from by omega) rfl ?_
        refine th_aload_n C dc_O_ready_12 rfl rfl ?_
        refine tq_getR C dc_O_ready_13 cl_20 fd_O_107 rfl (show 0 < 1 from by omega) rfl ?_
        refine th_bipush (v := 6) C dc_O_ready_16 th_b_6 ?_
        have e3 : (-1 : Int32) = I 53 0 6 := ((hI.1 53 0 6 (by decide)).trans rfl).symm
        refine tq_ialdE C dc_O_ready_18 rfl (fun _ => rfl) (show 0 < 1 from by omega) th_l_6 (by decide) (show 6 < 8 from by omega) e3 ?_
        refine th_iload_n C dc_O_ready_19 rfl rfl ?_
        refine tq_iadd C dc_O_ready_20 th_l_m1 rfl (fun x4 e4 a4 => ?_)
        refine th_iconst (v := 5) C dc_O_ready_21 th_c_5 ?_
        refine tq_iadd C dc_O_ready_22 rfl th_l_5 (fun x5 e5 a5 => ?_)
        refine th_iconst (v := 5) C dc_O_ready_23 th_c_5 ?_
        refine th_irem C dc_O_ready_24 (by decide) ?_
        obtain ⟨x6, e6⟩ : ∃ r : Int32, r = x5 - x5 / (5 : Int32) * (5 : Int32) := ⟨_, rfl⟩
        rw [← e6]
        have a6 := th_rem5 (x := x5) (by omega) (by omega)
        rw [← e6] at a6
        obtain ⟨n8, m8⟩ := th_nat (a := x6.toInt) (by omega)
        have e7 : (0 : Int32) = I 32 0 n8 := ((hI.1 32 0 n8 (by decide)).trans rfl).symm
        refine tq_ialdE C dc_O_ready_25 rfl (fun _ => rfl) (show 0 < 1 from by omega) rfl m8 (show n8 < 5 from by omega) e7 ?_
        refine th_iconst (v := 1) C dc_O_ready_26 th_c_1 ?_
        refine tq_icmp_ne (tgt := 44) C dc_O_ready_27 (by decide) th_l_0 th_l_1 (fun c9 => ?_) (fun c9 => ?_)
        · refine tq_iinc (lv' := fun rr => [(0, .inr (some (20, 0))), (1, .inl rr)]) C dc_O_ready_44 rfl (by decide) th_c_1 rfl th_l_1 (fun rr => rfl) (fun x10 e10 a10 => ?_)
          refine th_goto (tgt := 2) C dc_O_ready_47 (by decide) ?_
          exact ih x10 (by omega) (by omega)
        · exact absurd c9 (by decide)
  exact L2 _ ((1 : Int32)) (by have := th_l_1; omega) (Nat.lt_succ_self _)

set_option maxRecDepth 100000 in
set_option maxHeartbeats 4000000 in
theorem p_O_add (l : Launch) (hl : l.stackTraces = false) {A : th_I} (I : th_I) (t : Int32) (o : Int32) (a : Int32) (b : Int32) (hI : th_Of A I) : th_F l yn_O_add cb_O_add 6 (some .int) { frames := 2, cells := 0, slots := 0, locals := 44 } [.inr (some (20, 0)), .inl t, .inl o, .inl a, .inl b] (th_m I) (th_ri (fun x J => (((0 ≤ t.toInt ∧ t.toInt ≤ 4 ∧ th_valid o.toInt a.toInt b.toInt) ∧ x.toInt = 1 ∧ (J 20 0 34).toInt = 0) ∨ (¬ (0 ≤ t.toInt ∧ t.toInt ≤ 4 ∧ th_valid o.toInt a.toInt b.toInt) ∧ (J 20 0 34).toInt = 1)) ∧ ∀ i k, J 17 i k = A 17 i k)) := by
  refine th_of hl (by decide +kernel) (Nat.le_of_ble_eq_true rfl) (fun z C hQ hN => ?_)
  show th_G l z 6 0 [(0, .inr (some (20, 0))), (1, .inl t), (2, .inl o), (3, .inl a), (4, .inl b)] [] (th_m I) 0 0
  refine th_aload_n C dc_O_add_0 rfl rfl ?_
  refine th_iconst (v := 0) C dc_O_add_1 th_c_0 ?_
  refine tq_putI C dc_O_add_2 cl_20 fd_O_114 rfl (show 0 < 1 from by omega) rfl rfl ?_
  refine th_gen (P := fun J => th_Of A J ∧ J = th_u I 20 0 34 ((0 : Int32))) ⟨th_oput hI (by decide) rfl, rfl⟩ (fun I1 hI1 => ?_)
  obtain ⟨hI1, u1⟩ := hI1
  have e1 : (0 : Int32) = I1 20 0 34 := by rw [u1, th_u_eq]
  have g1 : 0 = (I1 20 0 34).toInt := by rw [← e1]; exact th_l_0.symm
  refine th_iload_n C dc_O_add_5 rfl rfl ?_
  refine th_iconst (v := 0) C dc_O_add_6 th_c_0 ?_
  refine th_iconst (v := 4) C dc_O_add_7 th_c_4 ?_
  refine tq_callSp C (p_O_is l hl I1 t ((0 : Int32)) ((4 : Int32))) ok_O_117 rfl (by decide) dc_O_add_8 rfl (fun x2 p2 => ?_)
  try simp only [th_l_0, th_l_4] at p2
  refine tq_if_eq (tgt := 24) C dc_O_add_11 (by decide) rfl (fun c3 => ?_) (fun c3 => ?_)
  · refine th_aload_n C dc_O_add_24 rfl rfl ?_
    refine th_iconst (v := 1) C dc_O_add_25 th_c_1 ?_
    refine tq_callVi C (p_O_refuse l hl I1 ((1 : Int32)) hI1) ok_O_124 cl_20 (show 0 < 1 from by omega) rfl (by decide) dc_O_add_26 rfl (fun x4 I4 p4 => ?_)
    obtain ⟨p4, fI4⟩ := p4
    try simp only [th_l_1] at p4
    exact th_iret C hQ dc_O_add_29 (by decide) (by decide) ⟨_, _, rfl, rfl, Or.inr ⟨fun q => by omega, by omega⟩, fI4⟩
  · refine th_iload_n C dc_O_add_14 rfl rfl ?_
    refine th_iload_n C dc_O_add_15 rfl rfl ?_
    refine th_iload C dc_O_add_16 rfl ?_
    refine tq_callSp C (p_O_fits l hl I1 o a b) ok_O_121 rfl (by decide) dc_O_add_18 rfl (fun x5 p5 => ?_)
    refine tq_if_ne (tgt := 30) C dc_O_add_21 (by decide) rfl (fun c6 => ?_) (fun c6 => ?_)
    · refine th_aload_n C dc_O_add_30 rfl rfl ?_
      refine th_iload_n C dc_O_add_31 rfl rfl ?_
      refine tq_callVp C (p_O_alive l hl I1 t hI1 (by omega)) ok_O_128 cl_20 (show 0 < 1 from by omega) rfl (by decide) dc_O_add_32 rfl (fun x7 p7 => ?_)
      refine tq_if_eq (tgt := 44) C dc_O_add_35 (by decide) rfl (fun c8 => ?_) (fun c8 => ?_)
      · refine th_aload_n C dc_O_add_44 rfl rfl ?_
        refine tq_getR C dc_O_add_45 cl_20 fd_O_19 rfl (show 0 < 1 from by omega) rfl ?_
        refine th_iload_n C dc_O_add_48 rfl rfl ?_
        obtain ⟨n10, m10⟩ := th_nat (a := t.toInt) (by omega)
        have e9 : (0 : Int32) = I1 24 0 n10 := ((hI1.1 24 0 n10 (by decide)).trans rfl).symm
        refine tq_ialdE C dc_O_add_49 rfl (fun _ => rfl) (show 0 < 1 from by omega) rfl m10 (show n10 < 5 from by omega) e9 ?_
        refine th_bipush (v := 24) C dc_O_add_50 th_b_24 ?_
        refine tq_icmp_ne (tgt := 61) C dc_O_add_52 (by decide) th_l_0 th_l_24 (fun c11 => ?_) (fun c11 => ?_)
        · refine th_bipush (v := 24) C dc_O_add_61 th_b_24 ?_
          refine th_iload_n C dc_O_add_63 rfl rfl ?_
          refine tq_imul C dc_O_add_64 th_l_24 rfl (fun x12 e12 a12 => ?_)
          refine th_aload_n C dc_O_add_65 rfl rfl ?_
          refine tq_getR C dc_O_add_66 cl_20 fd_O_19 rfl (show 0 < 1 from by omega) rfl ?_
          refine th_iload_n C dc_O_add_69 rfl rfl ?_
          refine tq_ialdE C dc_O_add_70 rfl (fun _ => rfl) (show 0 < 1 from by omega) rfl m10 (show n10 < 5 from by omega) e9 ?_
          refine tq_iadd C dc_O_add_71 rfl th_l_0 (fun x14 e14 a14 => ?_)
          refine th_istore (lv' := [(0, .inr (some (20, 0))), (1, .inl t), (2, .inl o), (3, .inl a), (4, .inl b), (5, .inl x14)]) C dc_O_add_72 (by decide) rfl ?_
          refine th_aload_n C dc_O_add_74 rfl rfl ?_
          refine tq_getR C dc_O_add_75 cl_20 fd_O_7 rfl (show 0 < 1 from by omega) rfl ?_
          refine th_iload C dc_O_add_78 rfl ?_
          refine th_iload_n C dc_O_add_80 rfl rfl ?_
          obtain ⟨n15, m15⟩ := th_nat (a := x14.toInt) (by omega)
          refine tq_iastN C dc_O_add_81 rfl (fun _ => rfl) (show 0 < 1 from by omega) rfl m15 (show n15 < 120 from by omega) ?_
          refine th_gen (P := fun J => (∀ i k, J 17 i k = A 17 i k) ∧ J = th_u I1 21 0 n15 o) ⟨fun i k => (th_u_tag (by decide)).trans (hI1.2 i k), rfl⟩ (fun I16 fI16 => ?_)
          obtain ⟨fI16, u16⟩ := fI16
          have e17 : (0 : Int32) = I16 20 0 34 := by rw [u16, th_u_tag (by decide)]; exact e1
          have g17 : 0 = (I16 20 0 34).toInt := by rw [← e17]; exact th_l_0.symm
          have e18 : (0 : Int32) = I16 24 0 n10 := by rw [u16, th_u_tag (by decide)]; exact e9
          have g18 : 0 = (I16 24 0 n10).toInt := by rw [← e18]; exact th_l_0.symm
          have e16 : o = I16 21 0 n15 := by rw [u16, th_u_eq]
          have g16 : o.toInt = (I16 21 0 n15).toInt := by rw [← e16]
          refine th_aload_n C dc_O_add_82 rfl rfl ?_
          refine tq_getR C dc_O_add_83 cl_20 fd_O_13 rfl (show 0 < 1 from by omega) rfl ?_
          refine th_iload C dc_O_add_86 rfl ?_
          refine th_iload_n C dc_O_add_88 rfl rfl ?_
          refine tq_iastN C dc_O_add_89 rfl (fun _ => rfl) (show 0 < 1 from by omega) rfl m15 (show n15 < 120 from by omega) ?_
          refine th_gen (P := fun J => (∀ i k, J 17 i k = A 17 i k) ∧ J = th_u I16 22 0 n15 a) ⟨fun i k => (th_u_tag (by decide)).trans (fI16 i k), rfl⟩ (fun I19 fI19 => ?_)
          obtain ⟨fI19, u19⟩ := fI19
          have e20 : (0 : Int32) = I19 20 0 34 := by rw [u19, th_u_tag (by decide)]; exact e17
          have g20 : 0 = (I19 20 0 34).toInt := by rw [← e20]; exact th_l_0.symm
          have e21 : (0 : Int32) = I19 24 0 n10 := by rw [u19, th_u_tag (by decide)]; exact e18
          have g21 : 0 = (I19 24 0 n10).toInt := by rw [← e21]; exact th_l_0.symm
          have e22 : o = I19 21 0 n15 := by rw [u19, th_u_tag (by decide)]; exact e16
          have g22 : o.toInt = (I19 21 0 n15).toInt := by rw [← e22]
          have e19 : a = I19 22 0 n15 := by rw [u19, th_u_eq]
          have g19 : a.toInt = (I19 22 0 n15).toInt := by rw [← e19]
          refine th_aload_n C dc_O_add_90 rfl rfl ?_
          refine tq_getR C dc_O_add_91 cl_20 fd_O_16 rfl (show 0 < 1 from by omega) rfl ?_
          refine th_iload C dc_O_add_94 rfl ?_
          refine th_iload C dc_O_add_96 rfl ?_
          refine tq_iastN C dc_O_add_98 rfl (fun _ => rfl) (show 0 < 1 from by omega) rfl m15 (show n15 < 120 from by omega) ?_
          refine th_gen (P := fun J => (∀ i k, J 17 i k = A 17 i k) ∧ J = th_u I19 23 0 n15 b) ⟨fun i k => (th_u_tag (by decide)).trans (fI19 i k), rfl⟩ (fun I23 fI23 => ?_)
          obtain ⟨fI23, u23⟩ := fI23
          have e24 : (0 : Int32) = I23 20 0 34 := by rw [u23, th_u_tag (by decide)]; exact e20
          have g24 : 0 = (I23 20 0 34).toInt := by rw [← e24]; exact th_l_0.symm
          have e25 : (0 : Int32) = I23 24 0 n10 := by rw [u23, th_u_tag (by decide)]; exact e21
          have g25 : 0 = (I23 24 0 n10).toInt := by rw [← e25]; exact th_l_0.symm
          have e26 : o = I23 21 0 n15 := by rw [u23, th_u_tag (by decide)]; exact e22
          have g26 : o.toInt = (I23 21 0 n15).toInt := by rw [← e26]
          have e27 : a = I23 22 0 n15 := by rw [u23, th_u_tag (by decide)]; exact e19
          have g27 : a.toInt = (I23 22 0 n15).toInt := by rw [← e27]
          have e23 : b = I23 23 0 n15 := by rw [u23, th_u_eq]
          have g23 : b.toInt = (I23 23 0 n15).toInt := by rw [← e23]
          refine th_aload_n C dc_O_add_99 rfl rfl ?_
          refine tq_getR C dc_O_add_100 cl_20 fd_O_19 rfl (show 0 < 1 from by omega) rfl ?_
          refine th_iload_n C dc_O_add_103 rfl rfl ?_
          refine th_dup2 C dc_O_add_104 ?_
          refine tq_ialdE C dc_O_add_105 rfl (fun _ => rfl) (show 0 < 1 from by omega) rfl m10 (show n10 < 5 from by omega) e25 ?_
          refine th_iconst (v := 1) C dc_O_add_106 th_c_1 ?_
          refine tq_iadd C dc_O_add_107 th_l_0 th_l_1 (fun x29 e29 a29 => ?_)
          refine th_dup_x2 C dc_O_add_108 ?_
          refine tq_iastN C dc_O_add_109 rfl (fun _ => rfl) (show 0 < 1 from by omega) rfl m10 (show n10 < 5 from by omega) ?_
          refine th_gen (P := fun J => (∀ i k, J 17 i k = A 17 i k) ∧ J = th_u I23 24 0 n10 x29) ⟨fun i k => (th_u_tag (by decide)).trans (fI23 i k), rfl⟩ (fun I30 fI30 => ?_)
          obtain ⟨fI30, u30⟩ := fI30
          have e31 : (0 : Int32) = I30 20 0 34 := by rw [u30, th_u_tag (by decide)]; exact e24
          have g31 : 0 = (I30 20 0 34).toInt := by rw [← e31]; exact th_l_0.symm
          have e32 : o = I30 21 0 n15 := by rw [u30, th_u_tag (by decide)]; exact e26
          have g32 : o.toInt = (I30 21 0 n15).toInt := by rw [← e32]
          have e33 : a = I30 22 0 n15 := by rw [u30, th_u_tag (by decide)]; exact e27
          have g33 : a.toInt = (I30 22 0 n15).toInt := by rw [← e33]
          have e34 : b = I30 23 0 n15 := by rw [u30, th_u_tag (by decide)]; exact e23
          have g34 : b.toInt = (I30 23 0 n15).toInt := by rw [← e34]
          have e30 : x29 = I30 24 0 n10 := by rw [u30, th_u_eq]
          have g30 : x29.toInt = (I30 24 0 n10).toInt := by rw [← e30]
          exact th_iret C hQ dc_O_add_110 (by decide) (by decide) ⟨_, _, rfl, rfl, Or.inl ⟨⟨by omega, by omega, (p5.resolve_right (fun q => absurd q.1 (by omega))).2⟩, by omega, by omega⟩, fI30⟩
        · exact absurd c11 (by decide)
      · refine th_aload_n C dc_O_add_38 rfl rfl ?_
        refine th_iconst (v := 2) C dc_O_add_39 th_c_2 ?_
        refine tq_callVi C (p_O_refuse l hl I1 ((2 : Int32)) hI1) ok_O_124 cl_20 (show 0 < 1 from by omega) rfl (by decide) dc_O_add_40 rfl (fun x35 I35 p35 => ?_)
        obtain ⟨p35, fI35⟩ := p35
        try simp only [th_l_2] at p35
        exact th_iret C hQ dc_O_add_43 (by decide) (by decide) ⟨_, _, rfl, rfl, (by first | exact Or.inr ⟨fun q => by omega, by omega⟩ | exact Or.inr ⟨fun q => absurd q.2.2 (p5.resolve_left (fun q => absurd q.1 (by omega))).2, by omega⟩), fI35⟩
    · refine th_aload_n C dc_O_add_24 rfl rfl ?_
      refine th_iconst (v := 1) C dc_O_add_25 th_c_1 ?_
      refine tq_callVi C (p_O_refuse l hl I1 ((1 : Int32)) hI1) ok_O_124 cl_20 (show 0 < 1 from by omega) rfl (by decide) dc_O_add_26 rfl (fun x36 I36 p36 => ?_)
      obtain ⟨p36, fI36⟩ := p36
      try simp only [th_l_1] at p36
      exact th_iret C hQ dc_O_add_29 (by decide) (by decide) ⟨_, _, rfl, rfl, (by first | exact Or.inr ⟨fun q => by omega, by omega⟩ | exact Or.inr ⟨fun q => absurd q.2.2 (p5.resolve_left (fun q => absurd q.1 (by omega))).2, by omega⟩), fI36⟩

set_option maxRecDepth 100000 in
set_option maxHeartbeats 4000000 in
theorem p_O_clear (l : Launch) (hl : l.stackTraces = false) {A : th_I} (I : th_I) (t : Int32) (hI : th_Of A I) : th_F l yn_O_clear cb_O_clear 3 (some .int) { frames := 1, cells := 0, slots := 0, locals := 22 } [.inr (some (20, 0)), .inl t] (th_m I) (th_ri (fun x J => (((0 ≤ t.toInt ∧ t.toInt ≤ 4) ∧ x.toInt = 0 ∧ (J 20 0 34).toInt = 0) ∨ (¬ (0 ≤ t.toInt ∧ t.toInt ≤ 4) ∧ (J 20 0 34).toInt = 1)) ∧ ∀ i k, J 17 i k = A 17 i k)) := by
  refine th_of hl (by decide +kernel) (Nat.le_of_ble_eq_true rfl) (fun z C hQ hN => ?_)
  show th_G l z 3 0 [(0, .inr (some (20, 0))), (1, .inl t)] [] (th_m I) 0 0
  refine th_aload_n C dc_O_clear_0 rfl rfl ?_
  refine th_iconst (v := 0) C dc_O_clear_1 th_c_0 ?_
  refine tq_putI C dc_O_clear_2 cl_20 fd_O_114 rfl (show 0 < 1 from by omega) rfl rfl ?_
  refine th_gen (P := fun J => th_Of A J ∧ J = th_u I 20 0 34 ((0 : Int32))) ⟨th_oput hI (by decide) rfl, rfl⟩ (fun I1 hI1 => ?_)
  obtain ⟨hI1, u1⟩ := hI1
  have e1 : (0 : Int32) = I1 20 0 34 := by rw [u1, th_u_eq]
  have g1 : 0 = (I1 20 0 34).toInt := by rw [← e1]; exact th_l_0.symm
  refine th_iload_n C dc_O_clear_5 rfl rfl ?_
  refine th_iconst (v := 0) C dc_O_clear_6 th_c_0 ?_
  refine th_iconst (v := 4) C dc_O_clear_7 th_c_4 ?_
  refine tq_callSp C (p_O_is l hl I1 t ((0 : Int32)) ((4 : Int32))) ok_O_117 rfl (by decide) dc_O_clear_8 rfl (fun x2 p2 => ?_)
  try simp only [th_l_0, th_l_4] at p2
  refine tq_if_ne (tgt := 20) C dc_O_clear_11 (by decide) rfl (fun c3 => ?_) (fun c3 => ?_)
  · refine th_aload_n C dc_O_clear_20 rfl rfl ?_
    refine th_iload_n C dc_O_clear_21 rfl rfl ?_
    refine tq_callVp C (p_O_alive l hl I1 t hI1 (by omega)) ok_O_128 cl_20 (show 0 < 1 from by omega) rfl (by decide) dc_O_clear_22 rfl (fun x4 p4 => ?_)
    refine tq_if_eq (tgt := 34) C dc_O_clear_25 (by decide) rfl (fun c5 => ?_) (fun c5 => ?_)
    · refine th_aload_n C dc_O_clear_34 rfl rfl ?_
      refine tq_getR C dc_O_clear_35 cl_20 fd_O_19 rfl (show 0 < 1 from by omega) rfl ?_
      refine th_iload_n C dc_O_clear_38 rfl rfl ?_
      obtain ⟨n7, m7⟩ := th_nat (a := t.toInt) (by omega)
      have e6 : (0 : Int32) = I1 24 0 n7 := ((hI1.1 24 0 n7 (by decide)).trans rfl).symm
      refine tq_ialdE C dc_O_clear_39 rfl (fun _ => rfl) (show 0 < 1 from by omega) rfl m7 (show n7 < 5 from by omega) e6 ?_
      refine th_istore_n (lv' := [(0, .inr (some (20, 0))), (1, .inl t), (2, .inl ((0 : Int32)))]) C dc_O_clear_40 rfl (by decide) rfl ?_
      refine th_aload_n C dc_O_clear_41 rfl rfl ?_
      refine tq_getR C dc_O_clear_42 cl_20 fd_O_19 rfl (show 0 < 1 from by omega) rfl ?_
      refine th_iload_n C dc_O_clear_45 rfl rfl ?_
      refine th_iconst (v := 0) C dc_O_clear_46 th_c_0 ?_
      refine tq_iastN C dc_O_clear_47 rfl (fun _ => rfl) (show 0 < 1 from by omega) rfl m7 (show n7 < 5 from by omega) ?_
      refine th_gen (P := fun J => th_Of A J ∧ J = th_u I1 24 0 n7 ((0 : Int32))) ⟨th_oput hI1 (by decide) rfl, rfl⟩ (fun I8 hI8 => ?_)
      obtain ⟨hI8, u8⟩ := hI8
      have e9 : (0 : Int32) = I8 20 0 34 := by rw [u8, th_u_tag (by decide)]; exact e1
      have g9 : 0 = (I8 20 0 34).toInt := by rw [← e9]; exact th_l_0.symm
      have e8 : (0 : Int32) = I8 24 0 n7 := by rw [u8, th_u_eq]
      have g8 : 0 = (I8 24 0 n7).toInt := by rw [← e8]; exact th_l_0.symm
      refine th_iload_n C dc_O_clear_48 rfl rfl ?_
      exact th_iret C hQ dc_O_clear_49 (by decide) (by decide) ⟨_, _, rfl, rfl, (by have := th_l_0; first | omega | (dsimp only; omega)), hI8.2⟩
    · refine th_aload_n C dc_O_clear_28 rfl rfl ?_
      refine th_iconst (v := 2) C dc_O_clear_29 th_c_2 ?_
      refine tq_callVi C (p_O_refuse l hl I1 ((2 : Int32)) hI1) ok_O_124 cl_20 (show 0 < 1 from by omega) rfl (by decide) dc_O_clear_30 rfl (fun x10 I10 p10 => ?_)
      obtain ⟨p10, fI10⟩ := p10
      try simp only [th_l_2] at p10
      exact th_iret C hQ dc_O_clear_33 (by decide) (by decide) ⟨_, _, rfl, rfl, (by first | omega | (dsimp only; omega)), fI10⟩
  · refine th_aload_n C dc_O_clear_14 rfl rfl ?_
    refine th_iconst (v := 1) C dc_O_clear_15 th_c_1 ?_
    refine tq_callVi C (p_O_refuse l hl I1 ((1 : Int32)) hI1) ok_O_124 cl_20 (show 0 < 1 from by omega) rfl (by decide) dc_O_clear_16 rfl (fun x11 I11 p11 => ?_)
    obtain ⟨p11, fI11⟩ := p11
    try simp only [th_l_1] at p11
    exact th_iret C hQ dc_O_clear_19 (by decide) (by decide) ⟨_, _, rfl, rfl, (by first | omega | (dsimp only; omega)), fI11⟩

set_option maxRecDepth 100000 in
set_option maxHeartbeats 4000000 in
theorem p_O_start (l : Launch) (hl : l.stackTraces = false) {A : th_I} (I : th_I) (t : Int32) (hI : th_Of A I) : th_F l yn_O_start cb_O_start 2 (some .int) { frames := 2, cells := 0, slots := 0, locals := 42 } [.inr (some (20, 0)), .inl t] (th_m I) (th_ri (fun x J => (((0 ≤ t.toInt ∧ t.toInt ≤ 4) ∧ x.toInt = 1 ∧ (J 20 0 34).toInt = 0) ∨ (¬ (0 ≤ t.toInt ∧ t.toInt ≤ 4) ∧ (J 20 0 34).toInt = 1)) ∧ ∀ i k, J 17 i k = A 17 i k)) := by
  refine th_of hl (by decide +kernel) (Nat.le_of_ble_eq_true rfl) (fun z C hQ hN => ?_)
  show th_G l z 2 0 [(0, .inr (some (20, 0))), (1, .inl t)] [] (th_m I) 0 0
  refine th_aload_n C dc_O_start_0 rfl rfl ?_
  refine th_iconst (v := 0) C dc_O_start_1 th_c_0 ?_
  refine tq_putI C dc_O_start_2 cl_20 fd_O_114 rfl (show 0 < 1 from by omega) rfl rfl ?_
  refine th_gen (P := fun J => th_Of A J ∧ J = th_u I 20 0 34 ((0 : Int32))) ⟨th_oput hI (by decide) rfl, rfl⟩ (fun I1 hI1 => ?_)
  obtain ⟨hI1, u1⟩ := hI1
  have e1 : (0 : Int32) = I1 20 0 34 := by rw [u1, th_u_eq]
  have g1 : 0 = (I1 20 0 34).toInt := by rw [← e1]; exact th_l_0.symm
  refine th_iload_n C dc_O_start_5 rfl rfl ?_
  refine th_iconst (v := 0) C dc_O_start_6 th_c_0 ?_
  refine th_iconst (v := 4) C dc_O_start_7 th_c_4 ?_
  refine tq_callSp C (p_O_is l hl I1 t ((0 : Int32)) ((4 : Int32))) ok_O_117 rfl (by decide) dc_O_start_8 rfl (fun x2 p2 => ?_)
  try simp only [th_l_0, th_l_4] at p2
  refine tq_if_ne (tgt := 20) C dc_O_start_11 (by decide) rfl (fun c3 => ?_) (fun c3 => ?_)
  · refine th_aload_n C dc_O_start_20 rfl rfl ?_
    refine th_iload_n C dc_O_start_21 rfl rfl ?_
    refine tq_callVi C (p_O_begin l hl I1 t hI1 (by omega)) ok_O_179 cl_20 (show 0 < 1 from by omega) rfl (by decide) dc_O_start_22 rfl (fun x4 I4 p4 => ?_)
    obtain ⟨p4, fI4⟩ := p4
    refine tq_if_eq (tgt := 32) C dc_O_start_25 (by decide) rfl (fun c5 => ?_) (fun c5 => ?_)
    · refine th_iconst (v := 0) C dc_O_start_32 th_c_0 ?_
      exact th_iret C hQ dc_O_start_33 (by decide) (by decide) ⟨_, _, rfl, rfl, (by have := th_l_0; first | omega | (dsimp only; omega)), fI4⟩
    · refine th_iconst (v := 1) C dc_O_start_28 th_c_1 ?_
      refine th_goto (tgt := 33) C dc_O_start_29 (by decide) ?_
      exact th_iret C hQ dc_O_start_33 (by decide) (by decide) ⟨_, _, rfl, rfl, (by have := th_l_1; first | omega | (dsimp only; omega)), fI4⟩
  · refine th_aload_n C dc_O_start_14 rfl rfl ?_
    refine th_iconst (v := 1) C dc_O_start_15 th_c_1 ?_
    refine tq_callVi C (p_O_refuse l hl I1 ((1 : Int32)) hI1) ok_O_124 cl_20 (show 0 < 1 from by omega) rfl (by decide) dc_O_start_16 rfl (fun x6 I6 p6 => ?_)
    obtain ⟨p6, fI6⟩ := p6
    try simp only [th_l_1] at p6
    exact th_iret C hQ dc_O_start_19 (by decide) (by decide) ⟨_, _, rfl, rfl, (by first | omega | (dsimp only; omega)), fI6⟩

set_option maxRecDepth 100000 in
set_option maxHeartbeats 4000000 in
theorem p_O_run (l : Launch) (hl : l.stackTraces = false) {A : th_I} (I : th_I) (n : Int32) (hI : th_Of A I) : th_F l yn_O_run cb_O_run 4 (some .int) { frames := 1, cells := 0, slots := 0, locals := 22 } [.inr (some (20, 0)), .inl n] (th_m I) (th_ri (fun x J => (((1 ≤ n.toInt ∧ n.toInt ≤ 40) ∧ x.toInt = 0 ∧ (J 20 0 34).toInt = 0) ∨ (¬ (1 ≤ n.toInt ∧ n.toInt ≤ 40) ∧ (J 20 0 34).toInt = 1)) ∧ ∀ i k, J 17 i k = A 17 i k)) := by
  refine th_of hl (by decide +kernel) (Nat.le_of_ble_eq_true rfl) (fun z C hQ hN => ?_)
  show th_G l z 4 0 [(0, .inr (some (20, 0))), (1, .inl n)] [] (th_m I) 0 0
  refine th_aload_n C dc_O_run_0 rfl rfl ?_
  refine th_iconst (v := 0) C dc_O_run_1 th_c_0 ?_
  refine tq_putI C dc_O_run_2 cl_20 fd_O_114 rfl (show 0 < 1 from by omega) rfl rfl ?_
  refine th_gen (P := fun J => th_Of A J ∧ J = th_u I 20 0 34 ((0 : Int32))) ⟨th_oput hI (by decide) rfl, rfl⟩ (fun I1 hI1 => ?_)
  obtain ⟨hI1, u1⟩ := hI1
  have e1 : (0 : Int32) = I1 20 0 34 := by rw [u1, th_u_eq]
  have g1 : 0 = (I1 20 0 34).toInt := by rw [← e1]; exact th_l_0.symm
  refine th_iload_n C dc_O_run_5 rfl rfl ?_
  refine th_iconst (v := 1) C dc_O_run_6 th_c_1 ?_
  refine th_bipush (v := 40) C dc_O_run_7 th_b_40 ?_
  refine tq_callSp C (p_O_is l hl I1 n ((1 : Int32)) ((40 : Int32))) ok_O_117 rfl (by decide) dc_O_run_9 rfl (fun x2 p2 => ?_)
  try simp only [th_l_1, th_l_40] at p2
  refine tq_if_ne (tgt := 21) C dc_O_run_12 (by decide) rfl (fun c3 => ?_) (fun c3 => ?_)
  · refine th_aload_n C dc_O_run_21 rfl rfl ?_
    refine tq_getR C dc_O_run_22 cl_20 fd_O_107 rfl (show 0 < 1 from by omega) rfl ?_
    refine th_iconst (v := 1) C dc_O_run_25 th_c_1 ?_
    have e4 : (0 : Int32) = I1 53 0 1 := ((hI1.1 53 0 1 (by decide)).trans rfl).symm
    refine tq_ialdE C dc_O_run_26 rfl (fun _ => rfl) (show 0 < 1 from by omega) th_l_1 (by decide) (show 1 < 8 from by omega) e4 ?_
    refine th_istore_n (lv' := [(0, .inr (some (20, 0))), (1, .inl n), (2, .inl ((0 : Int32)))]) C dc_O_run_27 rfl (by decide) rfl ?_
    refine th_iconst (v := 0) C dc_O_run_28 th_c_0 ?_
    refine th_istore_n (lv' := [(0, .inr (some (20, 0))), (1, .inl n), (2, .inl ((0 : Int32))), (3, .inl ((0 : Int32)))]) C dc_O_run_29 rfl (by decide) rfl ?_
    refine th_iload_n C dc_O_run_30 rfl rfl ?_
    refine th_iload_n C dc_O_run_31 rfl rfl ?_
    refine tq_icmp_ge (tgt := 56) C dc_O_run_32 (by decide) th_l_0 rfl (fun c5 => ?_) (fun c5 => ?_)
    · exact absurd c5 (by omega)
    · refine th_aload_n C dc_O_run_35 rfl rfl ?_
      refine tq_callVp C (p_O_ready l hl I1 hI1) ok_O_192 cl_20 (show 0 < 1 from by omega) rfl (by decide) dc_O_run_36 rfl (fun x6 p6 => ?_)
      refine tq_if_lt (tgt := 56) C dc_O_run_39 (by decide) rfl (fun c7 => ?_) (fun c7 => ?_)
      · refine th_aload_n C dc_O_run_56 rfl rfl ?_
        refine tq_getR C dc_O_run_57 cl_20 fd_O_107 rfl (show 0 < 1 from by omega) rfl ?_
        refine th_iconst (v := 1) C dc_O_run_60 th_c_1 ?_
        refine tq_ialdE C dc_O_run_61 rfl (fun _ => rfl) (show 0 < 1 from by omega) th_l_1 (by decide) (show 1 < 8 from by omega) e4 ?_
        refine th_iload_n C dc_O_run_62 rfl rfl ?_
        refine tq_isub C dc_O_run_63 th_l_0 th_l_0 (fun x9 e9 a9 => ?_)
        exact th_iret C hQ dc_O_run_64 (by decide) (by decide) ⟨_, _, rfl, rfl, (by first | omega | (dsimp only; omega)), hI1.2⟩
      · exact absurd c7 (by omega)
  · refine th_aload_n C dc_O_run_15 rfl rfl ?_
    refine th_iconst (v := 1) C dc_O_run_16 th_c_1 ?_
    refine tq_callVi C (p_O_refuse l hl I1 ((1 : Int32)) hI1) ok_O_124 cl_20 (show 0 < 1 from by omega) rfl (by decide) dc_O_run_17 rfl (fun x10 I10 p10 => ?_)
    obtain ⟨p10, fI10⟩ := p10
    try simp only [th_l_1] at p10
    exact th_iret C hQ dc_O_run_20 (by decide) (by decide) ⟨_, _, rfl, rfl, (by first | omega | (dsimp only; omega)), fI10⟩

set_option maxRecDepth 100000 in
set_option maxHeartbeats 4000000 in
theorem p_O_interrupt (l : Launch) (hl : l.stackTraces = false) {A : th_I} (I : th_I) (t : Int32) (hI : th_Of A I) : th_F l yn_O_interrupt cb_O_interrupt 2 (some .int) { frames := 2, cells := 0, slots := 0, locals := 42 } [.inr (some (20, 0)), .inl t] (th_m I) (th_ri (fun x J => (((0 ≤ t.toInt ∧ t.toInt ≤ 4) ∧ x.toInt = 0 ∧ (J 20 0 34).toInt = 0) ∨ (¬ (0 ≤ t.toInt ∧ t.toInt ≤ 4) ∧ (J 20 0 34).toInt = 1)) ∧ ∀ i k, J 17 i k = A 17 i k)) := by
  refine th_of hl (by decide +kernel) (Nat.le_of_ble_eq_true rfl) (fun z C hQ hN => ?_)
  show th_G l z 2 0 [(0, .inr (some (20, 0))), (1, .inl t)] [] (th_m I) 0 0
  refine th_aload_n C dc_O_interrupt_0 rfl rfl ?_
  refine th_iconst (v := 0) C dc_O_interrupt_1 th_c_0 ?_
  refine tq_putI C dc_O_interrupt_2 cl_20 fd_O_114 rfl (show 0 < 1 from by omega) rfl rfl ?_
  refine th_gen (P := fun J => th_Of A J ∧ J = th_u I 20 0 34 ((0 : Int32))) ⟨th_oput hI (by decide) rfl, rfl⟩ (fun I1 hI1 => ?_)
  obtain ⟨hI1, u1⟩ := hI1
  have e1 : (0 : Int32) = I1 20 0 34 := by rw [u1, th_u_eq]
  have g1 : 0 = (I1 20 0 34).toInt := by rw [← e1]; exact th_l_0.symm
  refine th_iload_n C dc_O_interrupt_5 rfl rfl ?_
  refine th_iconst (v := 0) C dc_O_interrupt_6 th_c_0 ?_
  refine th_iconst (v := 4) C dc_O_interrupt_7 th_c_4 ?_
  refine tq_callSp C (p_O_is l hl I1 t ((0 : Int32)) ((4 : Int32))) ok_O_117 rfl (by decide) dc_O_interrupt_8 rfl (fun x2 p2 => ?_)
  try simp only [th_l_0, th_l_4] at p2
  refine tq_if_ne (tgt := 20) C dc_O_interrupt_11 (by decide) rfl (fun c3 => ?_) (fun c3 => ?_)
  · refine th_aload_n C dc_O_interrupt_20 rfl rfl ?_
    refine th_iload_n C dc_O_interrupt_21 rfl rfl ?_
    refine tq_callVp C (p_O_interrupted l hl I1 t hI1 (by omega)) ok_O_185 cl_20 (show 0 < 1 from by omega) rfl (by decide) dc_O_interrupt_22 rfl (fun x4 p4 => ?_)
    refine tq_if_eq (tgt := 32) C dc_O_interrupt_25 (by decide) rfl (fun c5 => ?_) (fun c5 => ?_)
    · refine th_iconst (v := 0) C dc_O_interrupt_32 th_c_0 ?_
      exact th_iret C hQ dc_O_interrupt_33 (by decide) (by decide) ⟨_, _, rfl, rfl, (by have := th_l_0; first | omega | (dsimp only; omega)), hI1.2⟩
    · refine th_iconst (v := 1) C dc_O_interrupt_28 th_c_1 ?_
      refine th_goto (tgt := 33) C dc_O_interrupt_29 (by decide) ?_
      exact th_iret C hQ dc_O_interrupt_33 (by decide) (by decide) ⟨_, _, rfl, rfl, (by have := th_l_1; first | omega | (dsimp only; omega)), hI1.2⟩
  · refine th_aload_n C dc_O_interrupt_14 rfl rfl ?_
    refine th_iconst (v := 1) C dc_O_interrupt_15 th_c_1 ?_
    refine tq_callVi C (p_O_refuse l hl I1 ((1 : Int32)) hI1) ok_O_124 cl_20 (show 0 < 1 from by omega) rfl (by decide) dc_O_interrupt_16 rfl (fun x6 I6 p6 => ?_)
    obtain ⟨p6, fI6⟩ := p6
    try simp only [th_l_1] at p6
    exact th_iret C hQ dc_O_interrupt_19 (by decide) (by decide) ⟨_, _, rfl, rfl, (by first | omega | (dsimp only; omega)), fI6⟩

set_option maxRecDepth 100000 in
set_option maxHeartbeats 4000000 in
theorem p_O_slice (l : Launch) (hl : l.stackTraces = false) {A : th_I} (I : th_I) (n : Int32) (hI : th_Of A I) : th_F l yn_O_slice cb_O_slice 3 (some .int) { frames := 1, cells := 0, slots := 0, locals := 22 } [.inr (some (20, 0)), .inl n] (th_m I) (th_ri (fun x J => (((1 ≤ n.toInt ∧ n.toInt ≤ 20) ∧ x.toInt = 4 ∧ (J 20 0 34).toInt = 0) ∨ (¬ (1 ≤ n.toInt ∧ n.toInt ≤ 20) ∧ (J 20 0 34).toInt = 1)) ∧ ∀ i k, J 17 i k = A 17 i k)) := by
  refine th_of hl (by decide +kernel) (Nat.le_of_ble_eq_true rfl) (fun z C hQ hN => ?_)
  show th_G l z 3 0 [(0, .inr (some (20, 0))), (1, .inl n)] [] (th_m I) 0 0
  refine th_aload_n C dc_O_slice_0 rfl rfl ?_
  refine th_iconst (v := 0) C dc_O_slice_1 th_c_0 ?_
  refine tq_putI C dc_O_slice_2 cl_20 fd_O_114 rfl (show 0 < 1 from by omega) rfl rfl ?_
  refine th_gen (P := fun J => th_Of A J ∧ J = th_u I 20 0 34 ((0 : Int32))) ⟨th_oput hI (by decide) rfl, rfl⟩ (fun I1 hI1 => ?_)
  obtain ⟨hI1, u1⟩ := hI1
  have e1 : (0 : Int32) = I1 20 0 34 := by rw [u1, th_u_eq]
  have g1 : 0 = (I1 20 0 34).toInt := by rw [← e1]; exact th_l_0.symm
  refine th_iload_n C dc_O_slice_5 rfl rfl ?_
  refine th_iconst (v := 1) C dc_O_slice_6 th_c_1 ?_
  refine th_bipush (v := 20) C dc_O_slice_7 th_b_20 ?_
  refine tq_callSp C (p_O_is l hl I1 n ((1 : Int32)) ((20 : Int32))) ok_O_117 rfl (by decide) dc_O_slice_9 rfl (fun x2 p2 => ?_)
  try simp only [th_l_1, th_l_20] at p2
  refine tq_if_ne (tgt := 21) C dc_O_slice_12 (by decide) rfl (fun c3 => ?_) (fun c3 => ?_)
  · refine th_aload_n C dc_O_slice_21 rfl rfl ?_
    have e4 : (4 : Int32) = I1 20 0 33 := ((hI1.1 20 0 33 (by decide)).trans rfl).symm
    refine tq_getIe C dc_O_slice_22 cl_20 fd_O_110 rfl (show 0 < 1 from by omega) e4 ?_
    refine th_istore_n (lv' := [(0, .inr (some (20, 0))), (1, .inl n), (2, .inl ((4 : Int32)))]) C dc_O_slice_25 rfl (by decide) rfl ?_
    refine th_aload_n C dc_O_slice_26 rfl rfl ?_
    refine th_iload_n C dc_O_slice_27 rfl rfl ?_
    refine tq_putI C dc_O_slice_28 cl_20 fd_O_110 rfl (show 0 < 1 from by omega) rfl rfl ?_
    refine th_gen (P := fun J => (∀ i k, J 17 i k = A 17 i k) ∧ J = th_u I1 20 0 33 n) ⟨fun i k => (th_u_tag (by decide)).trans (hI1.2 i k), rfl⟩ (fun I5 fI5 => ?_)
    obtain ⟨fI5, u5⟩ := fI5
    have e6 : (0 : Int32) = I5 20 0 34 := by rw [u5, th_u_slot (by decide)]; exact e1
    have g6 : 0 = (I5 20 0 34).toInt := by rw [← e6]; exact th_l_0.symm
    have e5 : n = I5 20 0 33 := by rw [u5, th_u_eq]
    have g5 : n.toInt = (I5 20 0 33).toInt := by rw [← e5]
    refine th_iload_n C dc_O_slice_31 rfl rfl ?_
    exact th_iret C hQ dc_O_slice_32 (by decide) (by decide) ⟨_, _, rfl, rfl, (by have := th_l_4; first | omega | (dsimp only; omega)), fI5⟩
  · refine th_aload_n C dc_O_slice_15 rfl rfl ?_
    refine th_iconst (v := 1) C dc_O_slice_16 th_c_1 ?_
    refine tq_callVi C (p_O_refuse l hl I1 ((1 : Int32)) hI1) ok_O_124 cl_20 (show 0 < 1 from by omega) rfl (by decide) dc_O_slice_17 rfl (fun x7 I7 p7 => ?_)
    obtain ⟨p7, fI7⟩ := p7
    try simp only [th_l_1] at p7
    exact th_iret C hQ dc_O_slice_20 (by decide) (by decide) ⟨_, _, rfl, rfl, (by first | omega | (dsimp only; omega)), fI7⟩

set_option maxRecDepth 100000 in
set_option maxHeartbeats 4000000 in
theorem p_O_global (l : Launch) (hl : l.stackTraces = false) {A : th_I} (I : th_I) (s : Int32) (v : Int32) (hI : th_Of A I) : th_F l yn_O_global cb_O_global 4 (some .int) { frames := 1, cells := 0, slots := 0, locals := 22 } [.inr (some (20, 0)), .inl s, .inl v] (th_m I) (th_ri (fun x J => (((0 ≤ s.toInt ∧ s.toInt ≤ 3) ∧ x.toInt = 0 ∧ (J 20 0 34).toInt = 0) ∨ (¬ (0 ≤ s.toInt ∧ s.toInt ≤ 3) ∧ (J 20 0 34).toInt = 1)) ∧ ∀ i k, J 17 i k = A 17 i k)) := by
  refine th_of hl (by decide +kernel) (Nat.le_of_ble_eq_true rfl) (fun z C hQ hN => ?_)
  show th_G l z 4 0 [(0, .inr (some (20, 0))), (1, .inl s), (2, .inl v)] [] (th_m I) 0 0
  refine th_aload_n C dc_O_global_0 rfl rfl ?_
  refine th_iconst (v := 0) C dc_O_global_1 th_c_0 ?_
  refine tq_putI C dc_O_global_2 cl_20 fd_O_114 rfl (show 0 < 1 from by omega) rfl rfl ?_
  refine th_gen (P := fun J => th_Of A J ∧ J = th_u I 20 0 34 ((0 : Int32))) ⟨th_oput hI (by decide) rfl, rfl⟩ (fun I1 hI1 => ?_)
  obtain ⟨hI1, u1⟩ := hI1
  have e1 : (0 : Int32) = I1 20 0 34 := by rw [u1, th_u_eq]
  have g1 : 0 = (I1 20 0 34).toInt := by rw [← e1]; exact th_l_0.symm
  refine th_iload_n C dc_O_global_5 rfl rfl ?_
  refine th_iconst (v := 0) C dc_O_global_6 th_c_0 ?_
  refine th_iconst (v := 3) C dc_O_global_7 th_c_3 ?_
  refine tq_callSp C (p_O_is l hl I1 s ((0 : Int32)) ((3 : Int32))) ok_O_117 rfl (by decide) dc_O_global_8 rfl (fun x2 p2 => ?_)
  try simp only [th_l_0, th_l_3] at p2
  refine tq_if_ne (tgt := 20) C dc_O_global_11 (by decide) rfl (fun c3 => ?_) (fun c3 => ?_)
  · refine th_aload_n C dc_O_global_20 rfl rfl ?_
    refine tq_getR C dc_O_global_21 cl_20 fd_O_22 rfl (show 0 < 1 from by omega) rfl ?_
    refine th_iload_n C dc_O_global_24 rfl rfl ?_
    obtain ⟨n5, m5⟩ := th_nat (a := s.toInt) (by omega)
    have e4 : (0 : Int32) = I1 25 0 n5 := ((hI1.1 25 0 n5 (by decide)).trans rfl).symm
    refine tq_ialdE C dc_O_global_25 rfl (fun _ => rfl) (show 0 < 1 from by omega) rfl m5 (show n5 < 4 from by omega) e4 ?_
    refine th_istore_n (lv' := [(0, .inr (some (20, 0))), (1, .inl s), (2, .inl v), (3, .inl ((0 : Int32)))]) C dc_O_global_26 rfl (by decide) rfl ?_
    refine th_aload_n C dc_O_global_27 rfl rfl ?_
    refine tq_getR C dc_O_global_28 cl_20 fd_O_22 rfl (show 0 < 1 from by omega) rfl ?_
    refine th_iload_n C dc_O_global_31 rfl rfl ?_
    refine th_iload_n C dc_O_global_32 rfl rfl ?_
    refine tq_iastN C dc_O_global_33 rfl (fun _ => rfl) (show 0 < 1 from by omega) rfl m5 (show n5 < 4 from by omega) ?_
    refine th_gen (P := fun J => (∀ i k, J 17 i k = A 17 i k) ∧ J = th_u I1 25 0 n5 v) ⟨fun i k => (th_u_tag (by decide)).trans (hI1.2 i k), rfl⟩ (fun I6 fI6 => ?_)
    obtain ⟨fI6, u6⟩ := fI6
    have e7 : (0 : Int32) = I6 20 0 34 := by rw [u6, th_u_tag (by decide)]; exact e1
    have g7 : 0 = (I6 20 0 34).toInt := by rw [← e7]; exact th_l_0.symm
    have e6 : v = I6 25 0 n5 := by rw [u6, th_u_eq]
    have g6 : v.toInt = (I6 25 0 n5).toInt := by rw [← e6]
    refine th_iload_n C dc_O_global_34 rfl rfl ?_
    exact th_iret C hQ dc_O_global_35 (by decide) (by decide) ⟨_, _, rfl, rfl, (by have := th_l_0; first | omega | (dsimp only; omega)), fI6⟩
  · refine th_aload_n C dc_O_global_14 rfl rfl ?_
    refine th_iconst (v := 1) C dc_O_global_15 th_c_1 ?_
    refine tq_callVi C (p_O_refuse l hl I1 ((1 : Int32)) hI1) ok_O_124 cl_20 (show 0 < 1 from by omega) rfl (by decide) dc_O_global_16 rfl (fun x8 I8 p8 => ?_)
    obtain ⟨p8, fI8⟩ := p8
    try simp only [th_l_1] at p8
    exact th_iret C hQ dc_O_global_19 (by decide) (by decide) ⟨_, _, rfl, rfl, (by first | omega | (dsimp only; omega)), fI8⟩

set_option maxRecDepth 100000 in
set_option maxHeartbeats 4000000 in
theorem p_O_special (l : Launch) (hl : l.stackTraces = false) {A : th_I} (I : th_I) (t : Int32) (s : Int32) (hI : th_Of A I) : th_F l yn_O_special cb_O_special 3 (some .int) { frames := 2, cells := 0, slots := 0, locals := 46 } [.inr (some (20, 0)), .inl t, .inl s] (th_m I) (th_ri (fun x J => (((0 ≤ t.toInt ∧ t.toInt ≤ 4 ∧ 0 ≤ s.toInt ∧ s.toInt ≤ 3) ∧ x.toInt = 0 ∧ (J 20 0 34).toInt = 0) ∨ (¬ (0 ≤ t.toInt ∧ t.toInt ≤ 4 ∧ 0 ≤ s.toInt ∧ s.toInt ≤ 3) ∧ (J 20 0 34).toInt = 1)) ∧ ∀ i k, J 17 i k = A 17 i k)) := by
  refine th_of hl (by decide +kernel) (Nat.le_of_ble_eq_true rfl) (fun z C hQ hN => ?_)
  show th_G l z 3 0 [(0, .inr (some (20, 0))), (1, .inl t), (2, .inl s)] [] (th_m I) 0 0
  refine th_aload_n C dc_O_special_0 rfl rfl ?_
  refine th_iconst (v := 0) C dc_O_special_1 th_c_0 ?_
  refine tq_putI C dc_O_special_2 cl_20 fd_O_114 rfl (show 0 < 1 from by omega) rfl rfl ?_
  refine th_gen (P := fun J => th_Of A J ∧ J = th_u I 20 0 34 ((0 : Int32))) ⟨th_oput hI (by decide) rfl, rfl⟩ (fun I1 hI1 => ?_)
  obtain ⟨hI1, u1⟩ := hI1
  have e1 : (0 : Int32) = I1 20 0 34 := by rw [u1, th_u_eq]
  have g1 : 0 = (I1 20 0 34).toInt := by rw [← e1]; exact th_l_0.symm
  refine th_iload_n C dc_O_special_5 rfl rfl ?_
  refine th_iconst (v := 0) C dc_O_special_6 th_c_0 ?_
  refine th_iconst (v := 4) C dc_O_special_7 th_c_4 ?_
  refine tq_callSp C (p_O_is l hl I1 t ((0 : Int32)) ((4 : Int32))) ok_O_117 rfl (by decide) dc_O_special_8 rfl (fun x2 p2 => ?_)
  try simp only [th_l_0, th_l_4] at p2
  refine tq_if_eq (tgt := 32) C dc_O_special_11 (by decide) rfl (fun c3 => ?_) (fun c3 => ?_)
  · refine th_aload_n C dc_O_special_32 rfl rfl ?_
    refine th_iconst (v := 1) C dc_O_special_33 th_c_1 ?_
    refine tq_callVi C (p_O_refuse l hl I1 ((1 : Int32)) hI1) ok_O_124 cl_20 (show 0 < 1 from by omega) rfl (by decide) dc_O_special_34 rfl (fun x4 I4 p4 => ?_)
    obtain ⟨p4, fI4⟩ := p4
    try simp only [th_l_1] at p4
    exact th_iret C hQ dc_O_special_37 (by decide) (by decide) ⟨_, _, rfl, rfl, (by first | omega | (dsimp only; omega)), fI4⟩
  · refine th_iload_n C dc_O_special_14 rfl rfl ?_
    refine th_iconst (v := 0) C dc_O_special_15 th_c_0 ?_
    refine th_iconst (v := 3) C dc_O_special_16 th_c_3 ?_
    refine tq_callSp C (p_O_is l hl I1 s ((0 : Int32)) ((3 : Int32))) ok_O_117 rfl (by decide) dc_O_special_17 rfl (fun x5 p5 => ?_)
    try simp only [th_l_0, th_l_3] at p5
    refine tq_if_eq (tgt := 32) C dc_O_special_20 (by decide) rfl (fun c6 => ?_) (fun c6 => ?_)
    · refine th_aload_n C dc_O_special_32 rfl rfl ?_
      refine th_iconst (v := 1) C dc_O_special_33 th_c_1 ?_
      refine tq_callVi C (p_O_refuse l hl I1 ((1 : Int32)) hI1) ok_O_124 cl_20 (show 0 < 1 from by omega) rfl (by decide) dc_O_special_34 rfl (fun x7 I7 p7 => ?_)
      obtain ⟨p7, fI7⟩ := p7
      try simp only [th_l_1] at p7
      exact th_iret C hQ dc_O_special_37 (by decide) (by decide) ⟨_, _, rfl, rfl, (by first | omega | (dsimp only; omega)), fI7⟩
    · refine th_aload_n C dc_O_special_23 rfl rfl ?_
      refine th_iload_n C dc_O_special_24 rfl rfl ?_
      refine th_iload_n C dc_O_special_25 rfl rfl ?_
      refine tq_callVp C (p_O_get l hl I1 t s hI1 (by omega) (by omega)) ok_O_136 cl_20 (show 0 < 1 from by omega) rfl (by decide) dc_O_special_26 rfl (fun x8 p8 => ?_)
      refine th_goto (tgt := 37) C dc_O_special_29 (by decide) ?_
      exact th_iret C hQ dc_O_special_37 (by decide) (by decide) ⟨_, _, rfl, rfl, (by first | omega | (dsimp only; omega)), hI1.2⟩

set_option maxRecDepth 100000 in
set_option maxHeartbeats 4000000 in
theorem p_O_look (l : Launch) (hl : l.stackTraces = false) {A : th_I} (I : th_I) (t : Int32) (w : Int32) (hI : th_Of A I) : th_F l yn_O_look cb_O_look 3 (some .int) { frames := 1, cells := 0, slots := 0, locals := 22 } [.inr (some (20, 0)), .inl t, .inl w] (th_m I) (th_ri (fun x J => (((0 ≤ t.toInt ∧ t.toInt ≤ 4 ∧ 0 ≤ w.toInt ∧ w.toInt ≤ 9) ∧ ((w.toInt = 6 ∧ x.toInt = 24) ∨ (w.toInt ≠ 6 ∧ x.toInt = 0)) ∧ (J 20 0 34).toInt = 0) ∨ (¬ (0 ≤ t.toInt ∧ t.toInt ≤ 4 ∧ 0 ≤ w.toInt ∧ w.toInt ≤ 9) ∧ (J 20 0 34).toInt = 1)) ∧ ∀ i k, J 17 i k = A 17 i k)) := by
  refine th_of hl (by decide +kernel) (Nat.le_of_ble_eq_true rfl) (fun z C hQ hN => ?_)
  show th_G l z 3 0 [(0, .inr (some (20, 0))), (1, .inl t), (2, .inl w)] [] (th_m I) 0 0
  refine th_aload_n C dc_O_look_0 rfl rfl ?_
  refine th_iconst (v := 0) C dc_O_look_1 th_c_0 ?_
  refine tq_putI C dc_O_look_2 cl_20 fd_O_114 rfl (show 0 < 1 from by omega) rfl rfl ?_
  refine th_gen (P := fun J => th_Of A J ∧ J = th_u I 20 0 34 ((0 : Int32))) ⟨th_oput hI (by decide) rfl, rfl⟩ (fun I1 hI1 => ?_)
  obtain ⟨hI1, u1⟩ := hI1
  have e1 : (0 : Int32) = I1 20 0 34 := by rw [u1, th_u_eq]
  have g1 : 0 = (I1 20 0 34).toInt := by rw [← e1]; exact th_l_0.symm
  refine th_iload_n C dc_O_look_5 rfl rfl ?_
  refine th_iconst (v := 0) C dc_O_look_6 th_c_0 ?_
  refine th_iconst (v := 4) C dc_O_look_7 th_c_4 ?_
  refine tq_callSp C (p_O_is l hl I1 t ((0 : Int32)) ((4 : Int32))) ok_O_117 rfl (by decide) dc_O_look_8 rfl (fun x2 p2 => ?_)
  try simp only [th_l_0, th_l_4] at p2
  refine tq_if_ne (tgt := 20) C dc_O_look_11 (by decide) rfl (fun c3 => ?_) (fun c3 => ?_)
  · refine th_iload_n C dc_O_look_20 rfl rfl ?_
    have w4 : w.toInt = 0 ∨ w.toInt = 1 ∨ w.toInt = 2 ∨ w.toInt = 3 ∨ w.toInt = 4 ∨ w.toInt = 5 ∨ w.toInt = 6 ∨ w.toInt = 7 ∨ w.toInt = 8 ∨ w.toInt = 9 ∨ (w.toInt < 0 ∨ 9 < w.toInt) := by omega
    rcases w4 with w4 | w4 | w4 | w4 | w4 | w4 | w4 | w4 | w4 | w4 | w4
    · refine th_tableIn (tgt := 76) C dc_O_look_21 (by omega) (by omega) (by rw [w4]; rfl) (by decide) ?_
      refine th_aload_n C dc_O_look_76 rfl rfl ?_
      refine tq_getR C dc_O_look_77 cl_20 fd_O_43 rfl (show 0 < 1 from by omega) rfl ?_
      refine th_iload_n C dc_O_look_80 rfl rfl ?_
      obtain ⟨n6, m6⟩ := th_nat (a := t.toInt) (by omega)
      have e5 : (0 : Int32) = I1 32 0 n6 := ((hI1.1 32 0 n6 (by decide)).trans rfl).symm
      refine tq_ialdE C dc_O_look_81 rfl (fun _ => rfl) (show 0 < 1 from by omega) rfl m6 (show n6 < 5 from by omega) e5 ?_
      exact th_iret C hQ dc_O_look_82 (by decide) (by decide) ⟨_, _, rfl, rfl, (by have := th_l_0; first | omega | (dsimp only; omega)), hI1.2⟩
    · refine th_tableIn (tgt := 83) C dc_O_look_21 (by omega) (by omega) (by rw [w4]; rfl) (by decide) ?_
      refine th_aload_n C dc_O_look_83 rfl rfl ?_
      refine tq_getR C dc_O_look_84 cl_20 fd_O_46 rfl (show 0 < 1 from by omega) rfl ?_
      refine th_iload_n C dc_O_look_87 rfl rfl ?_
      obtain ⟨n8, m8⟩ := th_nat (a := t.toInt) (by omega)
      have e7 : (0 : Int32) = I1 33 0 n8 := ((hI1.1 33 0 n8 (by decide)).trans rfl).symm
      refine tq_ialdE C dc_O_look_88 rfl (fun _ => rfl) (show 0 < 1 from by omega) rfl m8 (show n8 < 5 from by omega) e7 ?_
      exact th_iret C hQ dc_O_look_89 (by decide) (by decide) ⟨_, _, rfl, rfl, (by have := th_l_0; first | omega | (dsimp only; omega)), hI1.2⟩
    · refine th_tableIn (tgt := 90) C dc_O_look_21 (by omega) (by omega) (by rw [w4]; rfl) (by decide) ?_
      refine th_aload_n C dc_O_look_90 rfl rfl ?_
      refine tq_getR C dc_O_look_91 cl_20 fd_O_49 rfl (show 0 < 1 from by omega) rfl ?_
      refine th_iload_n C dc_O_look_94 rfl rfl ?_
      obtain ⟨n10, m10⟩ := th_nat (a := t.toInt) (by omega)
      have e9 : (0 : Int32) = I1 34 0 n10 := ((hI1.1 34 0 n10 (by decide)).trans rfl).symm
      refine tq_ialdE C dc_O_look_95 rfl (fun _ => rfl) (show 0 < 1 from by omega) rfl m10 (show n10 < 5 from by omega) e9 ?_
      exact th_iret C hQ dc_O_look_96 (by decide) (by decide) ⟨_, _, rfl, rfl, (by have := th_l_0; first | omega | (dsimp only; omega)), hI1.2⟩
    · refine th_tableIn (tgt := 97) C dc_O_look_21 (by omega) (by omega) (by rw [w4]; rfl) (by decide) ?_
      refine th_aload_n C dc_O_look_97 rfl rfl ?_
      refine tq_getR C dc_O_look_98 cl_20 fd_O_31 rfl (show 0 < 1 from by omega) rfl ?_
      refine th_iload_n C dc_O_look_101 rfl rfl ?_
      obtain ⟨n12, m12⟩ := th_nat (a := t.toInt) (by omega)
      have e11 : (0 : Int32) = I1 28 0 n12 := ((hI1.1 28 0 n12 (by decide)).trans rfl).symm
      refine tq_ialdE C dc_O_look_102 rfl (fun _ => rfl) (show 0 < 1 from by omega) rfl m12 (show n12 < 5 from by omega) e11 ?_
      exact th_iret C hQ dc_O_look_103 (by decide) (by decide) ⟨_, _, rfl, rfl, (by have := th_l_0; first | omega | (dsimp only; omega)), hI1.2⟩
    · refine th_tableIn (tgt := 104) C dc_O_look_21 (by omega) (by omega) (by rw [w4]; rfl) (by decide) ?_
      refine th_aload_n C dc_O_look_104 rfl rfl ?_
      refine tq_getR C dc_O_look_105 cl_20 fd_O_40 rfl (show 0 < 1 from by omega) rfl ?_
      refine th_iload_n C dc_O_look_108 rfl rfl ?_
      obtain ⟨n14, m14⟩ := th_nat (a := t.toInt) (by omega)
      have e13 : (0 : Int32) = I1 31 0 n14 := ((hI1.1 31 0 n14 (by decide)).trans rfl).symm
      refine tq_ialdE C dc_O_look_109 rfl (fun _ => rfl) (show 0 < 1 from by omega) rfl m14 (show n14 < 5 from by omega) e13 ?_
      exact th_iret C hQ dc_O_look_110 (by decide) (by decide) ⟨_, _, rfl, rfl, (by have := th_l_0; first | omega | (dsimp only; omega)), hI1.2⟩
    · refine th_tableIn (tgt := 111) C dc_O_look_21 (by omega) (by omega) (by rw [w4]; rfl) (by decide) ?_
      refine th_aload_n C dc_O_look_111 rfl rfl ?_
      refine tq_getR C dc_O_look_112 cl_20 fd_O_73 rfl (show 0 < 1 from by omega) rfl ?_
      refine th_iload_n C dc_O_look_115 rfl rfl ?_
      obtain ⟨n16, m16⟩ := th_nat (a := t.toInt) (by omega)
      have e15 : (0 : Int32) = I1 42 0 n16 := ((hI1.1 42 0 n16 (by decide)).trans rfl).symm
      refine tq_zaldE C dc_O_look_116 rfl (fun _ => rfl) (show 0 < 1 from by omega) rfl m16 (show n16 < 5 from by omega) e15 ?_
      refine tq_if_eq (tgt := 124) C dc_O_look_117 (by decide) th_l_0 (fun c17 => ?_) (fun c17 => ?_)
      · refine th_iconst (v := 0) C dc_O_look_124 th_c_0 ?_
        exact th_iret C hQ dc_O_look_125 (by decide) (by decide) ⟨_, _, rfl, rfl, (by have := th_l_0; first | omega | (dsimp only; omega)), hI1.2⟩
      · exact absurd c17 (by decide)
    · refine th_tableIn (tgt := 126) C dc_O_look_21 (by omega) (by omega) (by rw [w4]; rfl) (by decide) ?_
      refine th_aload_n C dc_O_look_126 rfl rfl ?_
      refine tq_getR C dc_O_look_127 cl_20 fd_O_52 rfl (show 0 < 1 from by omega) rfl ?_
      refine th_iload_n C dc_O_look_130 rfl rfl ?_
      obtain ⟨n19, m19⟩ := th_nat (a := t.toInt) (by omega)
      have e18 : (24 : Int32) = I1 35 0 n19 := ((hI1.1 35 0 n19 (by decide)).trans rfl).symm
      refine tq_ialdE C dc_O_look_131 rfl (fun _ => rfl) (show 0 < 1 from by omega) rfl m19 (show n19 < 5 from by omega) e18 ?_
      exact th_iret C hQ dc_O_look_132 (by decide) (by decide) ⟨_, _, rfl, rfl, (by have := th_l_24; first | omega | (dsimp only; omega)), hI1.2⟩
    · refine th_tableIn (tgt := 133) C dc_O_look_21 (by omega) (by omega) (by rw [w4]; rfl) (by decide) ?_
      refine th_aload_n C dc_O_look_133 rfl rfl ?_
      refine tq_getR C dc_O_look_134 cl_20 fd_O_55 rfl (show 0 < 1 from by omega) rfl ?_
      refine th_iload_n C dc_O_look_137 rfl rfl ?_
      obtain ⟨n21, m21⟩ := th_nat (a := t.toInt) (by omega)
      have e20 : (0 : Int32) = I1 36 0 n21 := ((hI1.1 36 0 n21 (by decide)).trans rfl).symm
      refine tq_ialdE C dc_O_look_138 rfl (fun _ => rfl) (show 0 < 1 from by omega) rfl m21 (show n21 < 5 from by omega) e20 ?_
      exact th_iret C hQ dc_O_look_139 (by decide) (by decide) ⟨_, _, rfl, rfl, (by have := th_l_0; first | omega | (dsimp only; omega)), hI1.2⟩
    · refine th_tableIn (tgt := 140) C dc_O_look_21 (by omega) (by omega) (by rw [w4]; rfl) (by decide) ?_
      refine th_aload_n C dc_O_look_140 rfl rfl ?_
      refine tq_getR C dc_O_look_141 cl_20 fd_O_58 rfl (show 0 < 1 from by omega) rfl ?_
      refine th_iload_n C dc_O_look_144 rfl rfl ?_
      obtain ⟨n23, m23⟩ := th_nat (a := t.toInt) (by omega)
      have e22 : (0 : Int32) = I1 37 0 n23 := ((hI1.1 37 0 n23 (by decide)).trans rfl).symm
      refine tq_ialdE C dc_O_look_145 rfl (fun _ => rfl) (show 0 < 1 from by omega) rfl m23 (show n23 < 5 from by omega) e22 ?_
      exact th_iret C hQ dc_O_look_146 (by decide) (by decide) ⟨_, _, rfl, rfl, (by have := th_l_0; first | omega | (dsimp only; omega)), hI1.2⟩
    · refine th_tableIn (tgt := 147) C dc_O_look_21 (by omega) (by omega) (by rw [w4]; rfl) (by decide) ?_
      refine th_aload_n C dc_O_look_147 rfl rfl ?_
      refine tq_getR C dc_O_look_148 cl_20 fd_O_101 rfl (show 0 < 1 from by omega) rfl ?_
      refine th_iload_n C dc_O_look_151 rfl rfl ?_
      obtain ⟨n25, m25⟩ := th_nat (a := t.toInt) (by omega)
      have e24 : (0 : Int32) = I1 51 0 n25 := ((hI1.1 51 0 n25 (by decide)).trans rfl).symm
      refine tq_ialdE C dc_O_look_152 rfl (fun _ => rfl) (show 0 < 1 from by omega) rfl m25 (show n25 < 5 from by omega) e24 ?_
      exact th_iret C hQ dc_O_look_153 (by decide) (by decide) ⟨_, _, rfl, rfl, (by have := th_l_0; first | omega | (dsimp only; omega)), hI1.2⟩
    · refine th_tableOut (tgt := 154) C dc_O_look_21 w4 (by decide) ?_
      refine th_aload_n C dc_O_look_154 rfl rfl ?_
      refine th_iconst (v := 1) C dc_O_look_155 th_c_1 ?_
      refine tq_callVi C (p_O_refuse l hl I1 ((1 : Int32)) hI1) ok_O_124 cl_20 (show 0 < 1 from by omega) rfl (by decide) dc_O_look_156 rfl (fun x26 I26 p26 => ?_)
      obtain ⟨p26, fI26⟩ := p26
      try simp only [th_l_1] at p26
      exact th_iret C hQ dc_O_look_159 (by decide) (by decide) ⟨_, _, rfl, rfl, (by first | omega | (dsimp only; omega)), fI26⟩
  · refine th_aload_n C dc_O_look_14 rfl rfl ?_
    refine th_iconst (v := 1) C dc_O_look_15 th_c_1 ?_
    refine tq_callVi C (p_O_refuse l hl I1 ((1 : Int32)) hI1) ok_O_124 cl_20 (show 0 < 1 from by omega) rfl (by decide) dc_O_look_16 rfl (fun x27 I27 p27 => ?_)
    obtain ⟨p27, fI27⟩ := p27
    try simp only [th_l_1] at p27
    exact th_iret C hQ dc_O_look_19 (by decide) (by decide) ⟨_, _, rfl, rfl, (by first | omega | (dsimp only; omega)), fI27⟩

set_option maxRecDepth 100000 in
set_option maxHeartbeats 4000000 in
theorem p_O_lock (l : Launch) (hl : l.stackTraces = false) {A : th_I} (I : th_I) (m : Int32) (w : Int32) (hI : th_Of A I) : th_F l yn_O_lock cb_O_lock 3 (some .int) { frames := 1, cells := 0, slots := 0, locals := 22 } [.inr (some (20, 0)), .inl m, .inl w] (th_m I) (th_ri (fun x J => (((0 ≤ m.toInt ∧ m.toInt ≤ 2 ∧ 0 ≤ w.toInt ∧ w.toInt ≤ 3) ∧ ((w.toInt = 0 ∧ x.toInt = -1) ∨ (w.toInt ≠ 0 ∧ x.toInt = 0)) ∧ (J 20 0 34).toInt = 0) ∨ (¬ (0 ≤ m.toInt ∧ m.toInt ≤ 2 ∧ 0 ≤ w.toInt ∧ w.toInt ≤ 3) ∧ (J 20 0 34).toInt = 1)) ∧ ∀ i k, J 17 i k = A 17 i k)) := by
  refine th_of hl (by decide +kernel) (Nat.le_of_ble_eq_true rfl) (fun z C hQ hN => ?_)
  show th_G l z 3 0 [(0, .inr (some (20, 0))), (1, .inl m), (2, .inl w)] [] (th_m I) 0 0
  refine th_aload_n C dc_O_lock_0 rfl rfl ?_
  refine th_iconst (v := 0) C dc_O_lock_1 th_c_0 ?_
  refine tq_putI C dc_O_lock_2 cl_20 fd_O_114 rfl (show 0 < 1 from by omega) rfl rfl ?_
  refine th_gen (P := fun J => th_Of A J ∧ J = th_u I 20 0 34 ((0 : Int32))) ⟨th_oput hI (by decide) rfl, rfl⟩ (fun I1 hI1 => ?_)
  obtain ⟨hI1, u1⟩ := hI1
  have e1 : (0 : Int32) = I1 20 0 34 := by rw [u1, th_u_eq]
  have g1 : 0 = (I1 20 0 34).toInt := by rw [← e1]; exact th_l_0.symm
  refine th_iload_n C dc_O_lock_5 rfl rfl ?_
  refine th_iconst (v := 0) C dc_O_lock_6 th_c_0 ?_
  refine th_iconst (v := 2) C dc_O_lock_7 th_c_2 ?_
  refine tq_callSp C (p_O_is l hl I1 m ((0 : Int32)) ((2 : Int32))) ok_O_117 rfl (by decide) dc_O_lock_8 rfl (fun x2 p2 => ?_)
  try simp only [th_l_0, th_l_2] at p2
  refine tq_if_eq (tgt := 23) C dc_O_lock_11 (by decide) rfl (fun c3 => ?_) (fun c3 => ?_)
  · refine th_aload_n C dc_O_lock_23 rfl rfl ?_
    refine th_iconst (v := 1) C dc_O_lock_24 th_c_1 ?_
    refine tq_callVi C (p_O_refuse l hl I1 ((1 : Int32)) hI1) ok_O_124 cl_20 (show 0 < 1 from by omega) rfl (by decide) dc_O_lock_25 rfl (fun x4 I4 p4 => ?_)
    obtain ⟨p4, fI4⟩ := p4
    try simp only [th_l_1] at p4
    exact th_iret C hQ dc_O_lock_28 (by decide) (by decide) ⟨_, _, rfl, rfl, (by first | omega | (dsimp only; omega)), fI4⟩
  · refine th_iload_n C dc_O_lock_14 rfl rfl ?_
    refine th_iconst (v := 0) C dc_O_lock_15 th_c_0 ?_
    refine th_iconst (v := 3) C dc_O_lock_16 th_c_3 ?_
    refine tq_callSp C (p_O_is l hl I1 w ((0 : Int32)) ((3 : Int32))) ok_O_117 rfl (by decide) dc_O_lock_17 rfl (fun x5 p5 => ?_)
    try simp only [th_l_0, th_l_3] at p5
    refine tq_if_ne (tgt := 29) C dc_O_lock_20 (by decide) rfl (fun c6 => ?_) (fun c6 => ?_)
    · refine th_iload_n C dc_O_lock_29 rfl rfl ?_
      refine tq_if_ne (tgt := 42) C dc_O_lock_30 (by decide) rfl (fun c7 => ?_) (fun c7 => ?_)
      · refine th_iload_n C dc_O_lock_42 rfl rfl ?_
        refine th_iconst (v := 1) C dc_O_lock_43 th_c_1 ?_
        refine tq_icmp_ne (tgt := 56) C dc_O_lock_44 (by decide) rfl th_l_1 (fun c8 => ?_) (fun c8 => ?_)
        · refine th_iload_n C dc_O_lock_56 rfl rfl ?_
          refine th_iconst (v := 2) C dc_O_lock_57 th_c_2 ?_
          refine tq_icmp_ne (tgt := 70) C dc_O_lock_58 (by decide) rfl th_l_2 (fun c9 => ?_) (fun c9 => ?_)
          · refine th_aload_n C dc_O_lock_70 rfl rfl ?_
            refine tq_getR C dc_O_lock_71 cl_20 fd_O_95 rfl (show 0 < 1 from by omega) rfl ?_
            refine th_iload_n C dc_O_lock_74 rfl rfl ?_
            obtain ⟨n11, m11⟩ := th_nat (a := m.toInt) (by omega)
            have e10 : (0 : Int32) = I1 49 0 n11 := ((hI1.1 49 0 n11 (by decide)).trans rfl).symm
            refine tq_ialdE C dc_O_lock_75 rfl (fun _ => rfl) (show 0 < 1 from by omega) rfl m11 (show n11 < 3 from by omega) e10 ?_
            exact th_iret C hQ dc_O_lock_76 (by decide) (by decide) ⟨_, _, rfl, rfl, (by have := th_l_0; first | omega | (dsimp only; omega)), hI1.2⟩
          · refine th_aload_n C dc_O_lock_61 rfl rfl ?_
            refine tq_getR C dc_O_lock_62 cl_20 fd_O_89 rfl (show 0 < 1 from by omega) rfl ?_
            refine th_iload_n C dc_O_lock_65 rfl rfl ?_
            obtain ⟨n13, m13⟩ := th_nat (a := m.toInt) (by omega)
            have e12 : (0 : Int32) = I1 47 0 n13 := ((hI1.1 47 0 n13 (by decide)).trans rfl).symm
            refine tq_ialdE C dc_O_lock_66 rfl (fun _ => rfl) (show 0 < 1 from by omega) rfl m13 (show n13 < 3 from by omega) e12 ?_
            refine th_goto (tgt := 76) C dc_O_lock_67 (by decide) ?_
            exact th_iret C hQ dc_O_lock_76 (by decide) (by decide) ⟨_, _, rfl, rfl, (by have := th_l_0; first | omega | (dsimp only; omega)), hI1.2⟩
        · refine th_aload_n C dc_O_lock_47 rfl rfl ?_
          refine tq_getR C dc_O_lock_48 cl_20 fd_O_83 rfl (show 0 < 1 from by omega) rfl ?_
          refine th_iload_n C dc_O_lock_51 rfl rfl ?_
          obtain ⟨n15, m15⟩ := th_nat (a := m.toInt) (by omega)
          have e14 : (0 : Int32) = I1 45 0 n15 := ((hI1.1 45 0 n15 (by decide)).trans rfl).symm
          refine tq_ialdE C dc_O_lock_52 rfl (fun _ => rfl) (show 0 < 1 from by omega) rfl m15 (show n15 < 3 from by omega) e14 ?_
          refine th_goto (tgt := 76) C dc_O_lock_53 (by decide) ?_
          exact th_iret C hQ dc_O_lock_76 (by decide) (by decide) ⟨_, _, rfl, rfl, (by have := th_l_0; first | omega | (dsimp only; omega)), hI1.2⟩
      · refine th_aload_n C dc_O_lock_33 rfl rfl ?_
        refine tq_getR C dc_O_lock_34 cl_20 fd_O_80 rfl (show 0 < 1 from by omega) rfl ?_
        refine th_iload_n C dc_O_lock_37 rfl rfl ?_
        obtain ⟨n17, m17⟩ := th_nat (a := m.toInt) (by omega)
        have e16 : (-1 : Int32) = I1 44 0 n17 := ((hI1.1 44 0 n17 (by decide)).trans rfl).symm
        refine tq_ialdE C dc_O_lock_38 rfl (fun _ => rfl) (show 0 < 1 from by omega) rfl m17 (show n17 < 3 from by omega) e16 ?_
        refine th_goto (tgt := 76) C dc_O_lock_39 (by decide) ?_
        exact th_iret C hQ dc_O_lock_76 (by decide) (by decide) ⟨_, _, rfl, rfl, (by have := th_l_m1; first | omega | (dsimp only; omega)), hI1.2⟩
    · refine th_aload_n C dc_O_lock_23 rfl rfl ?_
      refine th_iconst (v := 1) C dc_O_lock_24 th_c_1 ?_
      refine tq_callVi C (p_O_refuse l hl I1 ((1 : Int32)) hI1) ok_O_124 cl_20 (show 0 < 1 from by omega) rfl (by decide) dc_O_lock_25 rfl (fun x18 I18 p18 => ?_)
      obtain ⟨p18, fI18⟩ := p18
      try simp only [th_l_1] at p18
      exact th_iret C hQ dc_O_lock_28 (by decide) (by decide) ⟨_, _, rfl, rfl, (by first | omega | (dsimp only; omega)), fI18⟩

set_option maxRecDepth 100000 in
set_option maxHeartbeats 4000000 in
theorem p_O_said (l : Launch) (hl : l.stackTraces = false) {A : th_I} (I : th_I) (k : Int32) (hI : th_Of A I) : th_F l yn_O_said cb_O_said 2 (some .int) { frames := 1, cells := 0, slots := 0, locals := 22 } [.inr (some (20, 0)), .inl k] (th_m I) (th_ri (fun x J => (((False) ∧ True ∧ (J 20 0 34).toInt = 0) ∨ (¬ (False) ∧ (J 20 0 34).toInt = 1)) ∧ ∀ i k, J 17 i k = A 17 i k)) := by
  refine th_of hl (by decide +kernel) (Nat.le_of_ble_eq_true rfl) (fun z C hQ hN => ?_)
  show th_G l z 2 0 [(0, .inr (some (20, 0))), (1, .inl k)] [] (th_m I) 0 0
  refine th_aload_n C dc_O_said_0 rfl rfl ?_
  refine th_iconst (v := 0) C dc_O_said_1 th_c_0 ?_
  refine tq_putI C dc_O_said_2 cl_20 fd_O_114 rfl (show 0 < 1 from by omega) rfl rfl ?_
  refine th_gen (P := fun J => th_Of A J ∧ J = th_u I 20 0 34 ((0 : Int32))) ⟨th_oput hI (by decide) rfl, rfl⟩ (fun I1 hI1 => ?_)
  obtain ⟨hI1, u1⟩ := hI1
  have e1 : (0 : Int32) = I1 20 0 34 := by rw [u1, th_u_eq]
  have g1 : 0 = (I1 20 0 34).toInt := by rw [← e1]; exact th_l_0.symm
  refine th_iload_n C dc_O_said_5 rfl rfl ?_
  refine th_iconst (v := 0) C dc_O_said_6 th_c_0 ?_
  refine th_bipush (v := 39) C dc_O_said_7 th_b_39 ?_
  refine tq_callSp C (p_O_is l hl I1 k ((0 : Int32)) ((39 : Int32))) ok_O_117 rfl (by decide) dc_O_said_9 rfl (fun x2 p2 => ?_)
  try simp only [th_l_0, th_l_39] at p2
  refine tq_if_eq (tgt := 34) C dc_O_said_12 (by decide) rfl (fun c3 => ?_) (fun c3 => ?_)
  · refine th_aload_n C dc_O_said_34 rfl rfl ?_
    refine th_iconst (v := 1) C dc_O_said_35 th_c_1 ?_
    refine tq_callVi C (p_O_refuse l hl I1 ((1 : Int32)) hI1) ok_O_124 cl_20 (show 0 < 1 from by omega) rfl (by decide) dc_O_said_36 rfl (fun x4 I4 p4 => ?_)
    obtain ⟨p4, fI4⟩ := p4
    try simp only [th_l_1] at p4
    exact th_iret C hQ dc_O_said_39 (by decide) (by decide) ⟨_, _, rfl, rfl, Or.inr ⟨fun q => q, by omega⟩, fI4⟩
  · refine th_iload_n C dc_O_said_15 rfl rfl ?_
    refine th_aload_n C dc_O_said_16 rfl rfl ?_
    refine tq_getR C dc_O_said_17 cl_20 fd_O_107 rfl (show 0 < 1 from by omega) rfl ?_
    refine th_iconst (v := 0) C dc_O_said_20 th_c_0 ?_
    have e5 : (0 : Int32) = I1 53 0 0 := ((hI1.1 53 0 0 (by decide)).trans rfl).symm
    refine tq_ialdE C dc_O_said_21 rfl (fun _ => rfl) (show 0 < 1 from by omega) th_l_0 (by decide) (show 0 < 8 from by omega) e5 ?_
    refine tq_icmp_ge (tgt := 34) C dc_O_said_22 (by decide) rfl th_l_0 (fun c6 => ?_) (fun c6 => ?_)
    · refine th_aload_n C dc_O_said_34 rfl rfl ?_
      refine th_iconst (v := 1) C dc_O_said_35 th_c_1 ?_
      refine tq_callVi C (p_O_refuse l hl I1 ((1 : Int32)) hI1) ok_O_124 cl_20 (show 0 < 1 from by omega) rfl (by decide) dc_O_said_36 rfl (fun x7 I7 p7 => ?_)
      obtain ⟨p7, fI7⟩ := p7
      try simp only [th_l_1] at p7
      exact th_iret C hQ dc_O_said_39 (by decide) (by decide) ⟨_, _, rfl, rfl, Or.inr ⟨fun q => q, by omega⟩, fI7⟩
    · exact absurd c6 (by omega)

set_option maxRecDepth 100000 in
set_option maxHeartbeats 4000000 in
theorem p_O_count (l : Launch) (hl : l.stackTraces = false) {A : th_I} (I : th_I) (w : Int32) (hI : th_Of A I) : th_F l yn_O_count cb_O_count 4 (some .int) { frames := 1, cells := 0, slots := 0, locals := 22 } [.inr (some (20, 0)), .inl w] (th_m I) (th_ri (fun x J => (((0 ≤ w.toInt ∧ w.toInt ≤ 7) ∧ ((w.toInt = 6 ∧ x.toInt = -1) ∨ (w.toInt ≠ 6 ∧ x.toInt = 0)) ∧ (J 20 0 34).toInt = 0) ∨ (¬ (0 ≤ w.toInt ∧ w.toInt ≤ 7) ∧ (J 20 0 34).toInt = 1)) ∧ ∀ i k, J 17 i k = A 17 i k)) := by
  refine th_of hl (by decide +kernel) (Nat.le_of_ble_eq_true rfl) (fun z C hQ hN => ?_)
  show th_G l z 4 0 [(0, .inr (some (20, 0))), (1, .inl w)] [] (th_m I) 0 0
  refine th_aload_n C dc_O_count_0 rfl rfl ?_
  refine th_iconst (v := 0) C dc_O_count_1 th_c_0 ?_
  refine tq_putI C dc_O_count_2 cl_20 fd_O_114 rfl (show 0 < 1 from by omega) rfl rfl ?_
  refine th_gen (P := fun J => th_Of A J ∧ J = th_u I 20 0 34 ((0 : Int32))) ⟨th_oput hI (by decide) rfl, rfl⟩ (fun I1 hI1 => ?_)
  obtain ⟨hI1, u1⟩ := hI1
  have e1 : (0 : Int32) = I1 20 0 34 := by rw [u1, th_u_eq]
  have g1 : 0 = (I1 20 0 34).toInt := by rw [← e1]; exact th_l_0.symm
  refine th_iload_n C dc_O_count_5 rfl rfl ?_
  refine th_iconst (v := 0) C dc_O_count_6 th_c_0 ?_
  refine th_bipush (v := 7) C dc_O_count_7 th_b_7 ?_
  refine tq_callSp C (p_O_is l hl I1 w ((0 : Int32)) ((7 : Int32))) ok_O_117 rfl (by decide) dc_O_count_9 rfl (fun x2 p2 => ?_)
  try simp only [th_l_0, th_l_7] at p2
  refine tq_if_ne (tgt := 21) C dc_O_count_12 (by decide) rfl (fun c3 => ?_) (fun c3 => ?_)
  · refine th_iload_n C dc_O_count_21 rfl rfl ?_
    refine th_iconst (v := 3) C dc_O_count_22 th_c_3 ?_
    refine tq_icmp_eq (tgt := 38) C dc_O_count_23 (by decide) rfl th_l_3 (fun c4 => ?_) (fun c4 => ?_)
    · refine th_iconst (v := 0) C dc_O_count_38 th_c_0 ?_
      refine th_istore_n (lv' := [(0, .inr (some (20, 0))), (1, .inl w), (2, .inl ((0 : Int32)))]) C dc_O_count_39 rfl (by decide) rfl ?_
      refine th_iconst (v := 0) C dc_O_count_40 th_c_0 ?_
      refine th_istore_n (lv' := [(0, .inr (some (20, 0))), (1, .inl w), (2, .inl ((0 : Int32))), (3, .inl ((0 : Int32)))]) C dc_O_count_41 rfl (by decide) rfl ?_
      have L42 : ∀ (N : Nat) (k : Int32), (0 ≤ k.toInt ∧ k.toInt ≤ 5) → (5 - k.toInt).toNat < N → th_G l z 4 42 [(0, .inr (some (20, 0))), (1, .inl w), (2, .inl ((0 : Int32))), (3, .inl k)] [] (th_m I1) 0 0 := by
        intro N
        induction N with
        | zero => intro k h1 hm; exact absurd hm (Nat.not_lt_zero _)
        | succ N ih =>
          intro k h1 hm
          refine th_iload_n C dc_O_count_42 rfl rfl ?_
          refine th_iconst (v := 5) C dc_O_count_43 th_c_5 ?_
          refine tq_icmp_ge (tgt := 82) C dc_O_count_44 (by decide) rfl th_l_5 (fun c6 => ?_) (fun c6 => ?_)
          · refine th_iload_n C dc_O_count_82 rfl rfl ?_
            exact th_iret C hQ dc_O_count_83 (by decide) (by decide) ⟨_, _, rfl, rfl, (by have := th_l_0; first | omega | (dsimp only; omega)), hI1.2⟩
          · refine th_iload_n C dc_O_count_47 rfl rfl ?_
            refine th_iconst (v := 3) C dc_O_count_48 th_c_3 ?_
            refine tq_icmp_ne (tgt := 63) C dc_O_count_49 (by decide) rfl th_l_3 (fun c7 => ?_) (fun c7 => ?_)
            · refine th_aload_n C dc_O_count_63 rfl rfl ?_
              refine tq_getR C dc_O_count_64 cl_20 fd_O_43 rfl (show 0 < 1 from by omega) rfl ?_
              refine th_iload_n C dc_O_count_67 rfl rfl ?_
              obtain ⟨n9, m9⟩ := th_nat (a := k.toInt) (by omega)
              have e8 : (0 : Int32) = I1 32 0 n9 := ((hI1.1 32 0 n9 (by decide)).trans rfl).symm
              refine tq_ialdE C dc_O_count_68 rfl (fun _ => rfl) (show 0 < 1 from by omega) rfl m9 (show n9 < 5 from by omega) e8 ?_
              refine th_iconst (v := 1) C dc_O_count_69 th_c_1 ?_
              refine tq_icmp_ne (tgt := 76) C dc_O_count_70 (by decide) th_l_0 th_l_1 (fun c10 => ?_) (fun c10 => ?_)
              · refine tq_iinc (lv' := fun rr => [(0, .inr (some (20, 0))), (1, .inl w), (2, .inl ((0 : Int32))), (3, .inl rr)]) C dc_O_count_76 rfl (by decide) th_c_1 rfl th_l_1 (fun rr => rfl) (fun x11 e11 a11 => ?_)
                refine th_goto (tgt := 42) C dc_O_count_79 (by decide) ?_
                exact ih x11 (by omega) (by omega)
              · exact absurd c10 (by decide)
            · refine th_aload_n C dc_O_count_52 rfl rfl ?_
              refine th_iload_n C dc_O_count_53 rfl rfl ?_
              refine tq_callVp C (p_O_alive l hl I1 k hI1 (by omega)) ok_O_128 cl_20 (show 0 < 1 from by omega) rfl (by decide) dc_O_count_54 rfl (fun x12 p12 => ?_)
              refine tq_if_eq (tgt := 76) C dc_O_count_57 (by decide) rfl (fun c13 => ?_) (fun c13 => ?_)
              · refine tq_iinc (lv' := fun rr => [(0, .inr (some (20, 0))), (1, .inl w), (2, .inl ((0 : Int32))), (3, .inl rr)]) C dc_O_count_76 rfl (by decide) th_c_1 rfl th_l_1 (fun rr => rfl) (fun x14 e14 a14 => ?_)
                refine th_goto (tgt := 42) C dc_O_count_79 (by decide) ?_
                exact ih x14 (by omega) (by omega)
              · exact absurd c13 (by omega)
      exact L42 _ ((0 : Int32)) (by have := th_l_0; omega) (Nat.lt_succ_self _)
    · refine th_iload_n C dc_O_count_26 rfl rfl ?_
      refine th_iconst (v := 4) C dc_O_count_27 th_c_4 ?_
      refine tq_icmp_eq (tgt := 38) C dc_O_count_28 (by decide) rfl th_l_4 (fun c15 => ?_) (fun c15 => ?_)
      · refine th_iconst (v := 0) C dc_O_count_38 th_c_0 ?_
        refine th_istore_n (lv' := [(0, .inr (some (20, 0))), (1, .inl w), (2, .inl ((0 : Int32)))]) C dc_O_count_39 rfl (by decide) rfl ?_
        refine th_iconst (v := 0) C dc_O_count_40 th_c_0 ?_
        refine th_istore_n (lv' := [(0, .inr (some (20, 0))), (1, .inl w), (2, .inl ((0 : Int32))), (3, .inl ((0 : Int32)))]) C dc_O_count_41 rfl (by decide) rfl ?_
        have L42 : ∀ (N : Nat) (k : Int32), (0 ≤ k.toInt ∧ k.toInt ≤ 5) → (5 - k.toInt).toNat < N → th_G l z 4 42 [(0, .inr (some (20, 0))), (1, .inl w), (2, .inl ((0 : Int32))), (3, .inl k)] [] (th_m I1) 0 0 := by
          intro N
          induction N with
          | zero => intro k h1 hm; exact absurd hm (Nat.not_lt_zero _)
          | succ N ih =>
            intro k h1 hm
            refine th_iload_n C dc_O_count_42 rfl rfl ?_
            refine th_iconst (v := 5) C dc_O_count_43 th_c_5 ?_
            refine tq_icmp_ge (tgt := 82) C dc_O_count_44 (by decide) rfl th_l_5 (fun c17 => ?_) (fun c17 => ?_)
            · refine th_iload_n C dc_O_count_82 rfl rfl ?_
              exact th_iret C hQ dc_O_count_83 (by decide) (by decide) ⟨_, _, rfl, rfl, (by have := th_l_0; first | omega | (dsimp only; omega)), hI1.2⟩
            · refine th_iload_n C dc_O_count_47 rfl rfl ?_
              refine th_iconst (v := 3) C dc_O_count_48 th_c_3 ?_
              refine tq_icmp_ne (tgt := 63) C dc_O_count_49 (by decide) rfl th_l_3 (fun c18 => ?_) (fun c18 => ?_)
              · refine th_aload_n C dc_O_count_63 rfl rfl ?_
                refine tq_getR C dc_O_count_64 cl_20 fd_O_43 rfl (show 0 < 1 from by omega) rfl ?_
                refine th_iload_n C dc_O_count_67 rfl rfl ?_
                obtain ⟨n20, m20⟩ := th_nat (a := k.toInt) (by omega)
                have e19 : (0 : Int32) = I1 32 0 n20 := ((hI1.1 32 0 n20 (by decide)).trans rfl).symm
                refine tq_ialdE C dc_O_count_68 rfl (fun _ => rfl) (show 0 < 1 from by omega) rfl m20 (show n20 < 5 from by omega) e19 ?_
                refine th_iconst (v := 1) C dc_O_count_69 th_c_1 ?_
                refine tq_icmp_ne (tgt := 76) C dc_O_count_70 (by decide) th_l_0 th_l_1 (fun c21 => ?_) (fun c21 => ?_)
                · refine tq_iinc (lv' := fun rr => [(0, .inr (some (20, 0))), (1, .inl w), (2, .inl ((0 : Int32))), (3, .inl rr)]) C dc_O_count_76 rfl (by decide) th_c_1 rfl th_l_1 (fun rr => rfl) (fun x22 e22 a22 => ?_)
                  refine th_goto (tgt := 42) C dc_O_count_79 (by decide) ?_
                  exact ih x22 (by omega) (by omega)
                · exact absurd c21 (by decide)
              · refine th_aload_n C dc_O_count_52 rfl rfl ?_
                refine th_iload_n C dc_O_count_53 rfl rfl ?_
                refine tq_callVp C (p_O_alive l hl I1 k hI1 (by omega)) ok_O_128 cl_20 (show 0 < 1 from by omega) rfl (by decide) dc_O_count_54 rfl (fun x23 p23 => ?_)
                refine tq_if_eq (tgt := 76) C dc_O_count_57 (by decide) rfl (fun c24 => ?_) (fun c24 => ?_)
                · refine tq_iinc (lv' := fun rr => [(0, .inr (some (20, 0))), (1, .inl w), (2, .inl ((0 : Int32))), (3, .inl rr)]) C dc_O_count_76 rfl (by decide) th_c_1 rfl th_l_1 (fun rr => rfl) (fun x25 e25 a25 => ?_)
                  refine th_goto (tgt := 42) C dc_O_count_79 (by decide) ?_
                  exact ih x25 (by omega) (by omega)
                · exact absurd c24 (by omega)
        exact L42 _ ((0 : Int32)) (by have := th_l_0; omega) (Nat.lt_succ_self _)
      · refine th_aload_n C dc_O_count_31 rfl rfl ?_
        refine tq_getR C dc_O_count_32 cl_20 fd_O_107 rfl (show 0 < 1 from by omega) rfl ?_
        refine th_iload_n C dc_O_count_35 rfl rfl ?_
        obtain ⟨n27, m27⟩ := th_nat (a := w.toInt) (by omega)
        refine tq_ialdN C dc_O_count_36 rfl (fun _ => rfl) (show 0 < 1 from by omega) rfl m27 (show n27 < 8 from by omega) (fun x26 e26 => ?_)
        have g26 : x26.toInt = (I1 53 0 n27).toInt := by rw [e26]
        have y53 := th_c53 (e26.trans (hI1.1 53 0 n27 (by decide)))
        exact th_iret C hQ dc_O_count_37 (by decide) (by decide) ⟨_, _, rfl, rfl, (by first | omega | (dsimp only; omega)), hI1.2⟩
  · refine th_aload_n C dc_O_count_15 rfl rfl ?_
    refine th_iconst (v := 1) C dc_O_count_16 th_c_1 ?_
    refine tq_callVi C (p_O_refuse l hl I1 ((1 : Int32)) hI1) ok_O_124 cl_20 (show 0 < 1 from by omega) rfl (by decide) dc_O_count_17 rfl (fun x28 I28 p28 => ?_)
    obtain ⟨p28, fI28⟩ := p28
    try simp only [th_l_1] at p28
    exact th_iret C hQ dc_O_count_20 (by decide) (by decide) ⟨_, _, rfl, rfl, (by first | omega | (dsimp only; omega)), fI28⟩
end
section
def th_cln (mu : th_M) : Prop := mu.2.2.2.1 = th_L0 ∧ ∀ t i k, mu.1 t ≤ i → mu.2.1 t i k = 0 ∧ mu.2.2.1 t i k = none
def th_pr (mu : th_M) (t i k : Nat) (v : Nat × Nat) : th_M := (mu.1, mu.2.1, th_ur mu.2.2.1 t i k (some v), mu.2.2.2)
def th_pi (mu : th_M) (t i k : Nat) (v : Int32) : th_M := (mu.1, th_u mu.2.1 t i k v, mu.2.2)
theorem th_cln_mk {mu : th_M} {t i : Nat} (h : th_cln mu) (hi : mu.1 t = i) : th_cln (th_mk mu t i) := by
  refine ⟨h.1, fun t' i' k q => h.2 t' i' k ?_⟩
  have q : (if t' = t then i + 1 else mu.1 t') ≤ i' := q
  by_cases e : t' = t
  · rw [if_pos e] at q
    rw [e, hi]
    omega
  · rw [if_neg e] at q
    exact q
theorem th_cln_pi {mu : th_M} {t i k : Nat} {v : Int32} (h : th_cln mu) (hi : i < mu.1 t) : th_cln (th_pi mu t i k v) := by
  refine ⟨h.1, fun t' i' k' q => ⟨?_, (h.2 t' i' k' q).2⟩⟩
  show th_u mu.2.1 t i k v t' i' k' = 0
  rcases th_u_or mu.2.1 t i k v t' i' k' with ⟨rfl, rfl, -, -⟩ | e
  · exact absurd q (Nat.not_le.mpr hi)
  · rw [e]; exact (h.2 t' i' k' q).1
theorem th_cln_pr {mu : th_M} {t i k : Nat} {v : Nat × Nat} (h : th_cln mu) (hi : i < mu.1 t) : th_cln (th_pr mu t i k v) := by
  refine ⟨h.1, fun t' i' k' q => ⟨(h.2 t' i' k' q).1, ?_⟩⟩
  show th_ur mu.2.2.1 t i k (some v) t' i' k' = none
  rw [th_ur_ne]
  · exact (h.2 t' i' k' q).2
  · rintro ⟨rfl, rfl⟩
    exact absurd q (Nat.not_le.mpr hi)
theorem th_hz {mu : th_M} {t i N : Nat} {ty : Nat → FieldType} (h : th_cln mu) (hi : mu.1 t = i) (hd : ∀ k, k < N → (th_fr t k = true ∧ defaultValue (ty k) = .null) ∨ (th_fr t k = false ∧ defaultValue (ty k) = .int 0)) : ∀ k, k < N → (th_fr t k = true ∧ defaultValue (ty k) = .null ∧ mu.2.2.1 t i k = none) ∨ (th_fr t k = false ∧ defaultValue (ty k) = .int 0 ∧ mu.2.1 t i k = 0) := by
  intro k hk
  rcases hd k hk with ⟨a, b⟩ | ⟨a, b⟩
  · exact Or.inl ⟨a, b, (h.2 t i k (Nat.le_of_eq hi)).2⟩
  · exact Or.inr ⟨a, b, (h.2 t i k (Nat.le_of_eq hi)).1⟩
def m_R (mu : th_M) (r : Nat) : th_M := th_pr (th_mk mu 15 r) 14 r 0 (15, r)
def m_P (mu : th_M) (t : Nat) : th_M := th_pr (th_mk (th_pr (th_mk (th_pr (th_mk mu 8 t) 7 t 0 (8, t)) 9 t) 7 t 1 (9, t)) 10 t) 7 t 2 (10, t)
def m_Q (mu : th_M) (j : Nat) : th_M := th_pr (th_mk (th_pr (th_mk mu 12 j) 11 j 0 (12, j)) 13 j) 11 j 1 (13, j)
def m_M (mu : th_M) (m : Nat) : th_M := th_pi (th_pr (m_R (th_mk mu 14 (5 + m)) (5 + m)) 16 m 0 (14, 5 + m)) 16 m 1 (-1)
def m_S1 (mu : th_M) (t : Nat) : th_M := th_pr (m_P (th_mk mu 7 t) t) 6 t 1 (7, t)
def m_S2 (mu : th_M) (t : Nat) : th_M := th_pr (m_Q (th_mk (m_S1 mu t) 11 (2 * t)) (2 * t)) 6 t 2 (11, 2 * t)
def m_S3 (mu : th_M) (t : Nat) : th_M := th_pr (m_Q (th_mk (m_S2 mu t) 11 (2 * t + 1)) (2 * t + 1)) 6 t 3 (11, 2 * t + 1)
def m_S4 (mu : th_M) (t : Nat) : th_M := th_pr (m_R (th_mk (m_S3 mu t) 14 t) t) 6 t 4 (14, t)
def m_S (mu : th_M) (t : Nat) (v : Int32) : th_M := th_pi (th_pi (th_pi (m_S4 mu t) 6 t 5 0) 6 t 8 24) 6 t 0 v
abbrev th_fin (m1 : th_M) : th_P := fun o mu' => o = .inl none ∧ mu' = m1
theorem th_finX (m1 : th_M) : ∀ E mu', ¬ th_fin m1 (.inr E) mu' := fun E mu' h => nomatch h.1

set_option maxRecDepth 100000 in
set_option maxHeartbeats 4000000 in
theorem k_R (l : Launch) (hl : l.stackTraces = false) (mu : th_M) (r n : Nat) (hc : th_cln mu) (h14 : r < mu.1 14) (h15 : mu.1 15 = r) (hn : mu.2.2.2.2 = n + 1) (ha : th_ad 15 r = n) : th_F l yn_R_init cb_R_init 1 none { frames := 1, cells := 1, slots := 5, locals := 13 } [.inr (some (14, r))] mu (th_fin (m_R mu r)) := by
  refine th_of hl (by decide +kernel) (Nat.le_of_ble_eq_true rfl) (fun z C hQ hN => ?_)
  refine th_aload_n C dc_R_init_0 rfl rfl ?_
  refine th_objInit C dc_R_init_1 (tb 124 (by decide +kernel) rfl) oi_1 oi_2 (by decide) (by decide) ?_
  refine th_aload_n C dc_R_init_4 rfl rfl ?_
  refine th_iconst (v := 5) C dc_R_init_5 th_c_5 ?_
  refine th_newa (mu := mu) (t := 15) (i := r) (N := 5) C dc_R_init_6 (Or.inl ⟨rfl, rfl⟩) rfl (fun _ => rfl) ac_int (by decide) rfl (by decide) hn h15 (by decide) ha (by rw [(hc).1]; rfl) (fun k => ((hc).2 15 r k (Nat.le_of_eq h15)).1) (by decide) (by decide) ?_
  refine th_putR (mu := th_mk mu 15 r) C dc_R_init_8 cl_14 fd_R_9 (h14) rfl rfl hN rfl rfl (fun _ => rfl) (fun _ => rfl) ?_
  exact th_vret C hQ dc_R_init_11 (by decide) (by decide) ⟨rfl, rfl⟩

set_option maxRecDepth 100000 in
set_option maxHeartbeats 4000000 in
theorem k_P (l : Launch) (hl : l.stackTraces = false) (mu : th_M) (t n : Nat) (hc : th_cln mu) (h7 : t < mu.1 7) (h8 : mu.1 8 = t) (h9 : mu.1 9 = t) (h10 : mu.1 10 = t) (hn : mu.2.2.2.2 = n + 1) (ha : n = 4 + 13 * t) : th_F l yn_P_init cb_P_init 1 none { frames := 1, cells := 3, slots := 72, locals := 13 } [.inr (some (7, t))] mu (th_fin (m_P mu t)) := by
  have c1 : th_cln (th_pr (th_mk mu 8 t) 7 t 0 (8, t)) := th_cln_pr (th_cln_mk hc h8) h7
  have c2 : th_cln (th_pr (th_mk (th_pr (th_mk mu 8 t) 7 t 0 (8, t)) 9 t) 7 t 1 (9, t)) := th_cln_pr (th_cln_mk c1 h9) h7
  refine th_of hl (by decide +kernel) (Nat.le_of_ble_eq_true rfl) (fun z C hQ hN => ?_)
  refine th_aload_n C dc_P_init_0 rfl rfl ?_
  refine th_objInit C dc_P_init_1 (tb 80 (by decide +kernel) rfl) oi_1 oi_2 (by decide) (by decide) ?_
  refine th_aload_n C dc_P_init_4 rfl rfl ?_
  refine th_bipush (v := 24) C dc_P_init_5 th_b_24 ?_
  refine th_newa (mu := mu) (t := 8) (i := t) (N := 24) C dc_P_init_7 (Or.inl ⟨rfl, rfl⟩) rfl (fun _ => rfl) ac_int (by decide) rfl (by decide) hn h8 (by decide) (show 4 + 13 * t = n by omega) (by rw [(hc).1]; rfl) (fun k => ((hc).2 8 t k (Nat.le_of_eq h8)).1) (by decide) (by decide) ?_
  refine th_putR (mu := th_mk mu 8 t) C dc_P_init_9 cl_7 fd_P_9 (h7) rfl rfl hN rfl rfl (fun _ => rfl) (fun _ => rfl) ?_
  refine th_aload_n C dc_P_init_12 rfl rfl ?_
  refine th_bipush (v := 24) C dc_P_init_13 th_b_24 ?_
  refine th_newa (mu := th_pr (th_mk mu 8 t) 7 t 0 (8, t)) (t := 9) (i := t) (N := 24) C dc_P_init_15 (Or.inl ⟨rfl, rfl⟩) rfl (fun _ => rfl) ac_int (by decide) rfl (by decide) (show mu.2.2.2.2 + 1 = (n + 1) + 1 by omega) h9 (by decide) (show 5 + 13 * t = n + 1 by omega) (by rw [(c1).1]; rfl) (fun k => ((c1).2 9 t k (Nat.le_of_eq h9)).1) (by decide) (by decide) ?_
  refine th_putR (mu := th_mk (th_pr (th_mk mu 8 t) 7 t 0 (8, t)) 9 t) C dc_P_init_17 cl_7 fd_P_15 (h7) rfl rfl hN rfl rfl (fun _ => rfl) (fun _ => rfl) ?_
  refine th_aload_n C dc_P_init_20 rfl rfl ?_
  refine th_bipush (v := 24) C dc_P_init_21 th_b_24 ?_
  refine th_newa (mu := th_pr (th_mk (th_pr (th_mk mu 8 t) 7 t 0 (8, t)) 9 t) 7 t 1 (9, t)) (t := 10) (i := t) (N := 24) C dc_P_init_23 (Or.inl ⟨rfl, rfl⟩) rfl (fun _ => rfl) ac_int (by decide) rfl (by decide) (show mu.2.2.2.2 + 1 + 1 = (n + 2) + 1 by omega) h10 (by decide) (show 6 + 13 * t = n + 2 by omega) (by rw [(c2).1]; rfl) (fun k => ((c2).2 10 t k (Nat.le_of_eq h10)).1) (by decide) (by decide) ?_
  refine th_putR (mu := th_mk (th_pr (th_mk (th_pr (th_mk mu 8 t) 7 t 0 (8, t)) 9 t) 7 t 1 (9, t)) 10 t) C dc_P_init_25 cl_7 fd_P_18 (h7) rfl rfl hN rfl rfl (fun _ => rfl) (fun _ => rfl) ?_
  exact th_vret C hQ dc_P_init_28 (by decide) (by decide) ⟨rfl, rfl⟩

theorem th_lp_12 (j : Nat) : th_lp j ≤ 12 := by
  unfold th_lp
  split <;> decide
set_option maxRecDepth 100000 in
set_option maxHeartbeats 4000000 in
theorem k_Q (l : Launch) (hl : l.stackTraces = false) (mu : th_M) (j n : Nat) (x : Int32) (hx : ¬ x < 0) (hxN : x.toNatClampNeg = th_lp j) (hc : th_cln mu) (h11 : j < mu.1 11) (h12 : mu.1 12 = j) (h13 : mu.1 13 = j) (hn : mu.2.2.2.2 = n + 1) (ha : n = 8 + 13 * (j / 2) + 3 * (j % 2)) : th_F l yn_Q_init cb_Q_init 2 none { frames := 1, cells := 2, slots := 24, locals := 13 } [.inr (some (11, j)), .inl x] mu (th_fin (m_Q mu j)) := by
  have c1 : th_cln (th_pr (th_mk mu 12 j) 11 j 0 (12, j)) := th_cln_pr (th_cln_mk hc h12) h11
  have hlp := th_lp_12 j
  refine th_of hl (by decide +kernel) (Nat.le_of_ble_eq_true rfl) (fun z C hQ hN => ?_)
  refine th_aload_n C dc_Q_init_0 rfl rfl ?_
  refine th_objInit C dc_Q_init_1 (tb 104 (by decide +kernel) rfl) oi_1 oi_2 (by decide) (by decide) ?_
  refine th_aload_n C dc_Q_init_4 rfl rfl ?_
  refine th_iload_n C dc_Q_init_5 rfl rfl ?_
  refine th_newa (mu := mu) (t := 12) (i := j) (N := th_lp j) C dc_Q_init_6 (Or.inl ⟨rfl, rfl⟩) rfl (fun _ => rfl) ac_int hx hxN (by omega) hn h12 (by decide) (show 8 + 13 * (j / 2) + 3 * (j % 2) = n by omega) (by rw [hc.1]; rfl) (fun k => (hc.2 12 j k (Nat.le_of_eq h12)).1) (by decide) (show 0 + th_lp j ≤ 24 by omega) ?_
  refine th_widen C (kc' := 1) (ks' := 12) (by decide) (by omega) ?_
  refine th_putR (mu := th_mk mu 12 j) C dc_Q_init_8 cl_11 fd_Q_9 (h11) rfl rfl hN rfl rfl (fun _ => rfl) (fun _ => rfl) ?_
  refine th_aload_n C dc_Q_init_11 rfl rfl ?_
  refine th_iload_n C dc_Q_init_12 rfl rfl ?_
  refine th_newa (mu := th_pr (th_mk mu 12 j) 11 j 0 (12, j)) (t := 13) (i := j) (N := th_lp j) C dc_Q_init_13 (Or.inl ⟨rfl, rfl⟩) rfl (fun _ => rfl) ac_int hx hxN (by omega) (show mu.2.2.2.2 + 1 = (n + 1) + 1 by omega) h13 (by decide) (show 9 + 13 * (j / 2) + 3 * (j % 2) = n + 1 by omega) (by rw [c1.1]; rfl) (fun k => (c1.2 13 j k (Nat.le_of_eq h13)).1) (by decide) (show 12 + th_lp j ≤ 24 by omega) ?_
  refine th_widen C (kc' := 2) (ks' := 24) (by decide) (by omega) ?_
  refine th_putR (mu := th_mk (th_pr (th_mk mu 12 j) 11 j 0 (12, j)) 13 j) C dc_Q_init_15 cl_11 fd_Q_15 (h11) rfl rfl hN rfl rfl (fun _ => rfl) (fun _ => rfl) ?_
  exact th_vret C hQ dc_Q_init_18 (by decide) (by decide) ⟨rfl, rfl⟩
end
section
theorem fd_M_12 : th_fd rn_M 12 tf_M 3 0 := ⟨by decide, (tb 209 (by decide +kernel) rfl)⟩
theorem fd_M_18 : th_fd rn_M 18 tf_M 3 1 := ⟨by decide, (tb 211 (by decide +kernel) rfl)⟩
theorem fd_S_12 : th_fd rn_S 12 tf_S 18 1 := ⟨by decide, (tb 135 (by decide +kernel) rfl)⟩
theorem fd_S_33 : th_fd rn_S 33 tf_S 18 4 := ⟨by decide, (tb 141 (by decide +kernel) rfl)⟩
theorem fd_S_44 : th_fd rn_S 44 tf_S 18 0 := ⟨by decide, (tb 133 (by decide +kernel) rfl)⟩
theorem th_b_12 : (Int8.ofInt 12).toInt32 = 12 := by decide
theorem th_l_12 : (12 : Int32).toInt = 12 := by decide
end
section
theorem okN_M_11 : th_okN rn_M 11 "ThreadHall" yn_R_init cb_R_init 1 0 := ⟨⟨(tb 123 (by decide +kernel) rfl), (tb 51 (by decide +kernel) rfl), (tn 208 (by decide +kernel) rfl), by decide, by decide, by decide⟩, rfl, (tb 122 (by decide +kernel) rfl)⟩

theorem okN_S_11 : th_okN rn_S 11 "ThreadHall" yn_P_init cb_P_init 1 0 := ⟨⟨(tb 79 (by decide +kernel) rfl), (tb 49 (by decide +kernel) rfl), (tn 77 (by decide +kernel) rfl), by decide, by decide, by decide⟩, rfl, (tb 78 (by decide +kernel) rfl)⟩

theorem okN_S_32 : th_okN rn_S 32 "ThreadHall" yn_R_init cb_R_init 1 0 := ⟨⟨(tb 123 (by decide +kernel) rfl), (tb 51 (by decide +kernel) rfl), (tn 121 (by decide +kernel) rfl), by decide, by decide, by decide⟩, rfl, (tb 122 (by decide +kernel) rfl)⟩

theorem okN_H_24 : th_okN rn_H 24 "ThreadHall" yn_M_init cb_M_init 1 0 := ⟨⟨(tb 205 (by decide +kernel) rfl), (tb 52 (by decide +kernel) rfl), (tn 203 (by decide +kernel) rfl), by decide, by decide, by decide⟩, rfl, (tb 204 (by decide +kernel) rfl)⟩

theorem okN_H_31 : th_okN rn_H 31 "ThreadHall" yn_R_init cb_R_init 1 0 := ⟨⟨(tb 123 (by decide +kernel) rfl), (tb 51 (by decide +kernel) rfl), (tn 224 (by decide +kernel) rfl), by decide, by decide, by decide⟩, rfl, (tb 122 (by decide +kernel) rfl)⟩

theorem okI_S_20 : th_okI rn_S 20 yn_Q_init cb_Q_init 2 1 := ⟨⟨(tb 103 (by decide +kernel) rfl), (tb 50 (by decide +kernel) rfl), (tb 101 (by decide +kernel) rfl), by decide, by decide, by decide⟩, rfl, (tb 102 (by decide +kernel) rfl)⟩

theorem okI_H_15 : th_okI rn_H 15 yn_S_init cb_S_init 2 1 := ⟨⟨(tb 73 (by decide +kernel) rfl), (tb 48 (by decide +kernel) rfl), (tb 71 (by decide +kernel) rfl), by decide, by decide, by decide⟩, rfl, (tb 72 (by decide +kernel) rfl)⟩

theorem okI_L_54 : th_okI rn_L 54 yn_H_init cb_H_init 2 0 := ⟨⟨(tb 64 (by decide +kernel) rfl), (tb 47 (by decide +kernel) rfl), (tb 62 (by decide +kernel) rfl), by decide, by decide, by decide⟩, rfl, (tb 63 (by decide +kernel) rfl)⟩

theorem okI_L_57 : th_okI rn_L 57 yn_O_init cb_O_init 2 0 := ⟨⟨(tb 626 (by decide +kernel) rfl), (tb 53 (by decide +kernel) rfl), (tb 624 (by decide +kernel) rfl), by decide, by decide, by decide⟩, rfl, (tb 625 (by decide +kernel) rfl)⟩

section TK
variable {l : Launch} {z : th_Z} {cc : ByteArray} {nL pc kc ks : Nat} {own : String} {rm : Room} {ret : Option FieldType} {tb : List ExceptionTableEntry} {lv : List (Nat × th_V)} {st : List th_V} {mu : th_M}
theorem tk_putI (C : th_C l z cc nL own rm ret tb) {t i ci ix kf N : Nat} {Cn : String} {T : u_T} {ty : Nat → FieldType} {v : Int32} (hd : decode cc pc = .ok (.putfield ix, 3)) (K : th_cl t ci Cn T N ty) (F : th_fd own ix T N kf) (hi : i < mu.1 t) (hr : th_fr t kf = false) (hfin : (T kf).2.2.2 = false) (hty : ty kf = .int)
    (k : th_G l z nL (pc + 3) lv st (th_pi mu t i kf v) kc ks) : th_G l z nL pc lv (.inl v :: .inr (some (t, i)) :: st) mu kc ks :=
  th_putI (mu := mu) C hd hi K.1 K.2.1 K.2.2.1 ty K.2.2.2.1 K.2.2.2.2 F.1 hr F.2 hfin (by rw [hty]; rfl) (by rw [hty]; rfl) k
theorem tk_callN {y : MethodName} {cy : ByteArray} {mL : Nat} {rmy : Room} {as : List th_V} {m1 : th_M} {q : Nat × Nat} {ix : Nat} {host : String} {stk : List th_V} (C : th_C l z cc nL own rm ret tb)
    (hM : th_F l y cy mL none rmy (.inr (some q) :: as) mu (th_fin m1)) (ok : th_okN own ix host y cy mL as.length) (hrm : th_okR rmy rm mL kc ks = true) (hst : st.length ≤ 8) (hd : decode cc pc = .ok (.invokespecial ix, 3)) (hstk : as.reverse ++ .inr (some q) :: st = stk)
    (k : th_G l z nL (pc + 3) lv st m1 (kc + rmy.cells) (ks + rmy.slots)) : th_G l z nL pc lv stk mu kc ks :=
  th_callN C hM (th_finX m1) ok hrm hst hd hstk (fun v mu' h => by obtain ⟨hv, rfl⟩ := h; cases hv; exact k)
theorem tk_callI {y : MethodName} {cy : ByteArray} {mL : Nat} {rmy : Room} {as : List th_V} {m1 : th_M} {q : Nat × Nat} {ix : Nat} {stk : List th_V} (C : th_C l z cc nL own rm ret tb)
    (hM : th_F l y cy mL none rmy (.inr (some q) :: as) mu (th_fin m1)) (ok : th_okI own ix y cy mL as.length) (hrm : th_okR rmy rm mL kc ks = true) (hst : st.length ≤ 8) (hd : decode cc pc = .ok (.invokespecial ix, 3)) (hstk : as.reverse ++ .inr (some q) :: st = stk)
    (k : th_G l z nL (pc + 3) lv st m1 (kc + rmy.cells) (ks + rmy.slots)) : th_G l z nL pc lv stk mu kc ks :=
  th_callI C hM (th_finX m1) ok hrm hst hd hstk (fun v mu' h => by obtain ⟨hv, rfl⟩ := h; cases hv; exact k)
end TK
theorem th_ad14_r (r : Nat) (h : r < 5) : th_ad 14 r = 13 + 13 * r := by
  show (if r < 5 then _ else _) = _
  rw [if_pos h]
theorem th_ad15_r (r : Nat) (h : r < 5) : th_ad 15 r = 14 + 13 * r := by
  show (if r < 5 then _ else _) = _
  rw [if_pos h]
theorem th_ad14_m (m : Nat) (h : m < 3) : th_ad 14 (5 + m) = 69 + 3 * m := by
  show (if 5 + m < 5 then _ else if 5 + m < 8 then _ else _) = _
  rw [if_neg (by omega), if_pos (by omega)]
  omega
theorem th_ad15_m (m : Nat) (h : m < 3) : th_ad 15 (5 + m) = 70 + 3 * m := by
  show (if 5 + m < 5 then _ else if 5 + m < 8 then _ else _) = _
  rw [if_neg (by omega), if_pos (by omega)]
  omega

set_option maxRecDepth 100000 in
set_option maxHeartbeats 4000000 in
theorem k_M (l : Launch) (hl : l.stackTraces = false) (mu : th_M) (m n : Nat) (hm : m < 3) (hc : th_cln mu) (h16 : m < mu.1 16) (h14 : mu.1 14 = 5 + m) (h15 : mu.1 15 = 5 + m) (hn : mu.2.2.2.2 = n + 1) (ha : n = 69 + 3 * m) : th_F l yn_M_init cb_M_init 1 none { frames := 2, cells := 2, slots := 7, locals := 40 } [.inr (some (16, m))] mu (th_fin (m_M mu m)) := by
  have e1 := th_ad14_m m hm
  have e2 := th_ad15_m m hm
  refine th_of hl (by decide +kernel) (Nat.le_of_ble_eq_true rfl) (fun z C hQ hN => ?_)
  refine th_aload_n C dc_M_init_0 rfl rfl ?_
  refine th_objInit C dc_M_init_1 (tb 206 (by decide +kernel) rfl) oi_1 oi_2 (by decide) (by decide) ?_
  refine th_aload_n C dc_M_init_4 rfl rfl ?_
  refine th_new (mu := mu) (t := 14) (i := 5 + m) C dc_M_init_5 cl_14 (tb 207 (by decide +kernel) rfl) (tb 120 (by decide +kernel) rfl) (tb 51 (by decide +kernel) rfl) hn h14 (by decide) (by omega) (th_hz hc h14 hd_14) (by decide) (by decide) ?_
  refine th_dup C dc_M_init_8 ?_
  refine tk_callN C (k_R l hl (th_mk mu 14 (5 + m)) (5 + m) (n + 1) (th_cln_mk hc h14) (Nat.lt_succ_self (5 + m)) h15 (show mu.2.2.2.2 + 1 = n + 1 + 1 by omega) (by omega)) okN_M_11 rfl (Nat.le_of_ble_eq_true rfl) dc_M_init_9 rfl ?_
  refine th_putR (mu := m_R (th_mk mu 14 (5 + m)) (5 + m)) C dc_M_init_12 cl_16 fd_M_12 h16 rfl rfl hN rfl rfl (fun _ => rfl) (fun _ => rfl) ?_
  refine th_aload_n C dc_M_init_15 rfl rfl ?_
  refine th_iconst (v := -1) C dc_M_init_16 th_c_m1 ?_
  refine tk_putI (mu := th_pr (m_R (th_mk mu 14 (5 + m)) (5 + m)) 16 m 0 (14, 5 + m)) C dc_M_init_17 cl_16 fd_M_18 h16 rfl rfl rfl ?_
  exact th_vret C hQ dc_M_init_20 (by decide) (by decide) ⟨rfl, rfl⟩

set_option maxRecDepth 100000 in
set_option maxHeartbeats 4000000 in
theorem k_S (l : Launch) (hl : l.stackTraces = false) (mu : th_M) (t n : Nat) (v : Int32) (ht : t < 5) (hc : th_cln mu) (h6 : t < mu.1 6) (h7 : mu.1 7 = t) (h8 : mu.1 8 = t) (h9 : mu.1 9 = t) (h10 : mu.1 10 = t) (h11 : mu.1 11 = 2 * t) (h12 : mu.1 12 = 2 * t) (h13 : mu.1 13 = 2 * t) (h14 : mu.1 14 = t) (h15 : mu.1 15 = t) (hn : mu.2.2.2.2 = n + 1) (ha : n = 3 + 13 * t) : th_F l yn_S_init cb_S_init 2 none { frames := 2, cells := 12, slots := 137, locals := 40 } [.inr (some (6, t)), .inl v] mu (th_fin (m_S mu t v)) := by
  have q1 : 2 * t / 2 = t := by omega
  have q2 : 2 * t % 2 = 0 := by omega
  have q3 : (2 * t + 1) / 2 = t := by omega
  have q4 : (2 * t + 1) % 2 = 1 := by omega
  have p1 : th_lp (2 * t) = 12 := by unfold th_lp; rw [if_pos q2]
  have p2 : th_lp (2 * t + 1) = 4 := by unfold th_lp; rw [if_neg (by omega)]
  have e1 := th_ad14_r t ht
  have e2 := th_ad15_r t ht
  have a1 : th_cln (th_mk mu 7 t) := th_cln_mk hc h7
  have k7 : t < (th_mk mu 7 t).1 7 := Nat.lt_succ_self t
  have a2 : th_cln (m_P (th_mk mu 7 t) t) := th_cln_pr (th_cln_mk (th_cln_pr (th_cln_mk (th_cln_pr (th_cln_mk a1 h8) k7) h9) k7) h10) k7
  have a3 : th_cln (m_S1 mu t) := th_cln_pr a2 h6
  have a4 : th_cln (th_mk (m_S1 mu t) 11 (2 * t)) := th_cln_mk a3 h11
  have k11 : 2 * t < (th_mk (m_S1 mu t) 11 (2 * t)).1 11 := Nat.lt_succ_self _
  have a5 : th_cln (m_Q (th_mk (m_S1 mu t) 11 (2 * t)) (2 * t)) := th_cln_pr (th_cln_mk (th_cln_pr (th_cln_mk a4 h12) k11) h13) k11
  have a6 : th_cln (m_S2 mu t) := th_cln_pr a5 h6
  have a7 : th_cln (th_mk (m_S2 mu t) 11 (2 * t + 1)) := th_cln_mk a6 rfl
  have k11b : 2 * t + 1 < (th_mk (m_S2 mu t) 11 (2 * t + 1)).1 11 := Nat.lt_succ_self _
  have a8 : th_cln (m_Q (th_mk (m_S2 mu t) 11 (2 * t + 1)) (2 * t + 1)) := th_cln_pr (th_cln_mk (th_cln_pr (th_cln_mk a7 rfl) k11b) rfl) k11b
  have a9 : th_cln (m_S3 mu t) := th_cln_pr a8 h6
  have a10 : th_cln (th_mk (m_S3 mu t) 14 t) := th_cln_mk a9 h14
  refine th_of hl (by decide +kernel) (Nat.le_of_ble_eq_true rfl) (fun z C hQ hN => ?_)
  refine th_aload_n C dc_S_init_0 rfl rfl ?_
  refine th_objInit C dc_S_init_1 (tb 74 (by decide +kernel) rfl) oi_1 oi_2 (by decide) (by decide) ?_
  refine th_aload_n C dc_S_init_4 rfl rfl ?_
  refine th_new (mu := mu) (t := 7) (i := t) C dc_S_init_5 cl_7 (tb 75 (by decide +kernel) rfl) (tb 76 (by decide +kernel) rfl) (tb 49 (by decide +kernel) rfl) hn h7 (by decide) (show 3 + 13 * t = n by omega) (th_hz hc h7 hd_7) (by decide) (by decide) ?_
  refine th_dup C dc_S_init_8 ?_
  refine tk_callN C (k_P l hl (th_mk mu 7 t) t (n + 1) a1 k7 h8 h9 h10 (show mu.2.2.2.2 + 1 = n + 1 + 1 by omega) (by omega)) okN_S_11 rfl (Nat.le_of_ble_eq_true rfl) dc_S_init_9 rfl ?_
  refine th_putR (mu := m_P (th_mk mu 7 t) t) C dc_S_init_12 cl_6 fd_S_12 h6 rfl rfl hN rfl rfl (fun _ => rfl) (fun _ => rfl) ?_
  refine th_aload_n C dc_S_init_15 rfl rfl ?_
  refine th_new (mu := m_S1 mu t) (t := 11) (i := 2 * t) C dc_S_init_16 cl_11 (tb 99 (by decide +kernel) rfl) (tb 100 (by decide +kernel) rfl) (tb 50 (by decide +kernel) rfl) (n := n + 4) (show mu.2.2.2.2 + 1 + 1 + 1 + 1 = n + 4 + 1 by omega) h11 (by decide) (show 7 + 13 * (2 * t / 2) + 3 * (2 * t % 2) = n + 4 by omega) (th_hz a3 h11 hd_11) (by decide) (by decide) ?_
  refine th_dup C dc_S_init_19 ?_
  refine th_bipush (v := 12) C dc_S_init_20 th_b_12 ?_
  refine tk_callI C (k_Q l hl (th_mk (m_S1 mu t) 11 (2 * t)) (2 * t) (n + 5) 12 (by decide) (by rw [p1]; decide) a4 k11 h12 h13 (show mu.2.2.2.2 + 1 + 1 + 1 + 1 + 1 = n + 5 + 1 by omega) (by omega)) okI_S_20 rfl (Nat.le_of_ble_eq_true rfl) dc_S_init_22 rfl ?_
  refine th_putR (mu := m_Q (th_mk (m_S1 mu t) 11 (2 * t)) (2 * t)) C dc_S_init_25 cl_6 fd_S_23 h6 rfl rfl hN rfl rfl (fun _ => rfl) (fun _ => rfl) ?_
  refine th_aload_n C dc_S_init_28 rfl rfl ?_
  refine th_new (mu := m_S2 mu t) (t := 11) (i := 2 * t + 1) C dc_S_init_29 cl_11 (tb 99 (by decide +kernel) rfl) (tb 100 (by decide +kernel) rfl) (tb 50 (by decide +kernel) rfl) (n := n + 7) (show mu.2.2.2.2 + 1 + 1 + 1 + 1 + 1 + 1 + 1 = n + 7 + 1 by omega) rfl (by decide) (show 7 + 13 * ((2 * t + 1) / 2) + 3 * ((2 * t + 1) % 2) = n + 7 by omega) (th_hz a6 rfl hd_11) (by decide) (by decide) ?_
  refine th_dup C dc_S_init_32 ?_
  refine th_iconst (v := 4) C dc_S_init_33 th_c_4 ?_
  refine tk_callI C (k_Q l hl (th_mk (m_S2 mu t) 11 (2 * t + 1)) (2 * t + 1) (n + 8) 4 (by decide) (by rw [p2]; decide) a7 k11b rfl rfl (show mu.2.2.2.2 + 1 + 1 + 1 + 1 + 1 + 1 + 1 + 1 = n + 8 + 1 by omega) (by omega)) okI_S_20 rfl (Nat.le_of_ble_eq_true rfl) dc_S_init_34 rfl ?_
  refine th_putR (mu := m_Q (th_mk (m_S2 mu t) 11 (2 * t + 1)) (2 * t + 1)) C dc_S_init_37 cl_6 fd_S_27 h6 rfl rfl hN rfl rfl (fun _ => rfl) (fun _ => rfl) ?_
  refine th_aload_n C dc_S_init_40 rfl rfl ?_
  refine th_new (mu := m_S3 mu t) (t := 14) (i := t) C dc_S_init_41 cl_14 (tb 119 (by decide +kernel) rfl) (tb 120 (by decide +kernel) rfl) (tb 51 (by decide +kernel) rfl) (n := n + 10) (show mu.2.2.2.2 + 1 + 1 + 1 + 1 + 1 + 1 + 1 + 1 + 1 + 1 = n + 10 + 1 by omega) h14 (by decide) (by omega) (th_hz a9 h14 hd_14) (by decide) (by decide) ?_
  refine th_dup C dc_S_init_44 ?_
  refine tk_callN C (k_R l hl (th_mk (m_S3 mu t) 14 t) t (n + 11) a10 (Nat.lt_succ_self t) h15 (show mu.2.2.2.2 + 1 + 1 + 1 + 1 + 1 + 1 + 1 + 1 + 1 + 1 + 1 = n + 11 + 1 by omega) (by omega)) okN_S_32 rfl (Nat.le_of_ble_eq_true rfl) dc_S_init_45 rfl ?_
  refine th_putR (mu := m_R (th_mk (m_S3 mu t) 14 t) t) C dc_S_init_48 cl_6 fd_S_33 h6 rfl rfl hN rfl rfl (fun _ => rfl) (fun _ => rfl) ?_
  refine th_aload_n C dc_S_init_51 rfl rfl ?_
  refine th_iconst (v := 0) C dc_S_init_52 th_c_0 ?_
  refine tk_putI (mu := m_S4 mu t) C dc_S_init_53 cl_6 fd_S_37 h6 rfl rfl rfl ?_
  refine th_aload_n C dc_S_init_56 rfl rfl ?_
  refine th_bipush (v := 24) C dc_S_init_57 th_b_24 ?_
  refine tk_putI (mu := th_pi (m_S4 mu t) 6 t 5 0) C dc_S_init_59 cl_6 fd_S_41 h6 rfl rfl rfl ?_
  refine th_aload_n C dc_S_init_62 rfl rfl ?_
  refine th_iload_n C dc_S_init_63 rfl rfl ?_
  refine th_putFI (mu := th_pi (th_pi (m_S4 mu t) 6 t 5 0) 6 t 8 24) C dc_S_init_64 cl_6 fd_S_44 h6 rfl rfl hN rfl rfl rfl ?_
  exact th_vret C hQ dc_S_init_67 (by decide) (by decide) ⟨rfl, rfl⟩
end
section
theorem fd_H_36 : th_fd rn_H 36 tf_H 12 4 := ⟨by decide, (tb 229 (by decide +kernel) rfl)⟩
theorem fd_O_25 : th_fd rn_O 25 tf_O 36 5 := ⟨by decide, (tb 633 (by decide +kernel) rfl)⟩
theorem fd_O_28 : th_fd rn_O 28 tf_O 36 6 := ⟨by decide, (tb 634 (by decide +kernel) rfl)⟩
theorem fd_O_34 : th_fd rn_O 34 tf_O 36 8 := ⟨by decide, (tb 636 (by decide +kernel) rfl)⟩
theorem fd_O_37 : th_fd rn_O 37 tf_O 36 9 := ⟨by decide, (tb 637 (by decide +kernel) rfl)⟩
theorem fd_O_61 : th_fd rn_O 61 tf_O 36 17 := ⟨by decide, (tb 645 (by decide +kernel) rfl)⟩
theorem fd_O_64 : th_fd rn_O 64 tf_O 36 18 := ⟨by decide, (tb 646 (by decide +kernel) rfl)⟩
theorem fd_O_67 : th_fd rn_O 67 tf_O 36 19 := ⟨by decide, (tb 647 (by decide +kernel) rfl)⟩
theorem fd_O_70 : th_fd rn_O 70 tf_O 36 20 := ⟨by decide, (tb 648 (by decide +kernel) rfl)⟩
theorem fd_O_86 : th_fd rn_O 86 tf_O 36 25 := ⟨by decide, (tb 653 (by decide +kernel) rfl)⟩
theorem fd_O_92 : th_fd rn_O 92 tf_O 36 27 := ⟨by decide, (tb 655 (by decide +kernel) rfl)⟩
theorem fd_O_98 : th_fd rn_O 98 tf_O 36 29 := ⟨by decide, (tb 657 (by decide +kernel) rfl)⟩
theorem fd_O_104 : th_fd rn_O 104 tf_O 36 31 := ⟨by decide, (tb 659 (by decide +kernel) rfl)⟩
theorem th_b_8 : (Int8.ofInt 8).toInt32 = 8 := by decide
theorem th_l_8 : (8 : Int32).toInt = 8 := by decide
theorem th_b_15 : (Int8.ofInt 15).toInt32 = 15 := by decide
theorem th_l_15 : (15 : Int32).toInt = 15 := by decide
theorem th_b_25 : (Int8.ofInt 25).toInt32 = 25 := by decide
theorem th_l_25 : (25 : Int32).toInt = 25 := by decide
theorem th_b_60 : (Int8.ofInt 60).toInt32 = 60 := by decide
theorem th_l_60 : (60 : Int32).toInt = 60 := by decide
theorem th_b_120 : (Int8.ofInt 120).toInt32 = 120 := by decide
theorem th_l_120 : (120 : Int32).toInt = 120 := by decide
end
section
theorem th_cln_mR {mu : th_M} {r : Nat} (hc : th_cln mu) (h14 : r < mu.1 14) (h15 : mu.1 15 = r) : th_cln (m_R mu r) := th_cln_pr (th_cln_mk hc h15) h14
theorem th_cln_mM {mu : th_M} {m : Nat} (hc : th_cln mu) (h16 : m < mu.1 16) (h14 : mu.1 14 = 5 + m) (h15 : mu.1 15 = 5 + m) : th_cln (m_M mu m) :=
  th_cln_pi (th_cln_pr (th_cln_mR (th_cln_mk hc h14) (Nat.lt_succ_self (5 + m)) h15) h16) h16
theorem th_cln_mS {mu : th_M} {t : Nat} {v : Int32} (hc : th_cln mu) (h6 : t < mu.1 6) (h7 : mu.1 7 = t) (h8 : mu.1 8 = t) (h9 : mu.1 9 = t) (h10 : mu.1 10 = t) (h11 : mu.1 11 = 2 * t) (h12 : mu.1 12 = 2 * t) (h13 : mu.1 13 = 2 * t) (h14 : mu.1 14 = t) (h15 : mu.1 15 = t) : th_cln (m_S mu t v) := by
  have a1 : th_cln (th_mk mu 7 t) := th_cln_mk hc h7
  have k7 : t < (th_mk mu 7 t).1 7 := Nat.lt_succ_self t
  have a2 : th_cln (m_P (th_mk mu 7 t) t) := th_cln_pr (th_cln_mk (th_cln_pr (th_cln_mk (th_cln_pr (th_cln_mk a1 h8) k7) h9) k7) h10) k7
  have a3 : th_cln (m_S1 mu t) := th_cln_pr a2 h6
  have a4 : th_cln (th_mk (m_S1 mu t) 11 (2 * t)) := th_cln_mk a3 h11
  have k11 : 2 * t < (th_mk (m_S1 mu t) 11 (2 * t)).1 11 := Nat.lt_succ_self _
  have a5 : th_cln (m_Q (th_mk (m_S1 mu t) 11 (2 * t)) (2 * t)) := th_cln_pr (th_cln_mk (th_cln_pr (th_cln_mk a4 h12) k11) h13) k11
  have a6 : th_cln (m_S2 mu t) := th_cln_pr a5 h6
  have a7 : th_cln (th_mk (m_S2 mu t) 11 (2 * t + 1)) := th_cln_mk a6 rfl
  have k11b : 2 * t + 1 < (th_mk (m_S2 mu t) 11 (2 * t + 1)).1 11 := Nat.lt_succ_self _
  have a8 : th_cln (m_Q (th_mk (m_S2 mu t) 11 (2 * t + 1)) (2 * t + 1)) := th_cln_pr (th_cln_mk (th_cln_pr (th_cln_mk a7 rfl) k11b) rfl) k11b
  have a9 : th_cln (m_S3 mu t) := th_cln_pr a8 h6
  have a10 : th_cln (th_mk (m_S3 mu t) 14 t) := th_cln_mk a9 h14
  exact th_cln_pi (th_cln_pi (th_cln_pi (th_cln_pr (th_cln_mR a10 (Nat.lt_succ_self t) h15) h6) h6) h6) h6

def hm_0 : th_M := (fun _ => 0, fun _ _ _ => 0, fun _ _ _ => none, th_L0, 1)
theorem hc_0 : th_cln hm_0 := ⟨rfl, fun _ _ _ _ => ⟨rfl, rfl⟩⟩
def hm_1 : th_M := th_mk hm_0 0 0
theorem hc_1 : th_cln hm_1 := th_cln_mk hc_0 (by decide +kernel)
def hm_2 : th_M := th_mk hm_1 1 0
theorem hc_2 : th_cln hm_2 := th_cln_mk hc_1 (by decide +kernel)
def hm_3 : th_M := th_pr hm_2 0 0 0 (1, 0)
theorem hc_3 : th_cln hm_3 := th_cln_pr hc_2 (by decide +kernel)
def hm_4 : th_M := th_mk hm_3 6 0
theorem hc_4 : th_cln hm_4 := th_cln_mk hc_3 (by decide +kernel)
def hm_5 : th_M := m_S hm_4 0 0
theorem hc_5 : th_cln hm_5 := th_cln_mS hc_4 (by decide +kernel) (by decide +kernel) (by decide +kernel) (by decide +kernel) (by decide +kernel) (by decide +kernel) (by decide +kernel) (by decide +kernel) (by decide +kernel) (by decide +kernel)
def hm_6 : th_M := th_pr hm_5 1 0 0 (6, 0)
theorem hc_6 : th_cln hm_6 := th_cln_pr hc_5 (by decide +kernel)
def hm_7 : th_M := th_mk hm_6 6 1
theorem hc_7 : th_cln hm_7 := th_cln_mk hc_6 (by decide +kernel)
def hm_8 : th_M := m_S hm_7 1 1
theorem hc_8 : th_cln hm_8 := th_cln_mS hc_7 (by decide +kernel) (by decide +kernel) (by decide +kernel) (by decide +kernel) (by decide +kernel) (by decide +kernel) (by decide +kernel) (by decide +kernel) (by decide +kernel) (by decide +kernel)
def hm_9 : th_M := th_pr hm_8 1 0 1 (6, 1)
theorem hc_9 : th_cln hm_9 := th_cln_pr hc_8 (by decide +kernel)
def hm_10 : th_M := th_mk hm_9 6 2
theorem hc_10 : th_cln hm_10 := th_cln_mk hc_9 (by decide +kernel)
def hm_11 : th_M := m_S hm_10 2 2
theorem hc_11 : th_cln hm_11 := th_cln_mS hc_10 (by decide +kernel) (by decide +kernel) (by decide +kernel) (by decide +kernel) (by decide +kernel) (by decide +kernel) (by decide +kernel) (by decide +kernel) (by decide +kernel) (by decide +kernel)
def hm_12 : th_M := th_pr hm_11 1 0 2 (6, 2)
theorem hc_12 : th_cln hm_12 := th_cln_pr hc_11 (by decide +kernel)
def hm_13 : th_M := th_mk hm_12 6 3
theorem hc_13 : th_cln hm_13 := th_cln_mk hc_12 (by decide +kernel)
def hm_14 : th_M := m_S hm_13 3 3
theorem hc_14 : th_cln hm_14 := th_cln_mS hc_13 (by decide +kernel) (by decide +kernel) (by decide +kernel) (by decide +kernel) (by decide +kernel) (by decide +kernel) (by decide +kernel) (by decide +kernel) (by decide +kernel) (by decide +kernel)
def hm_15 : th_M := th_pr hm_14 1 0 3 (6, 3)
theorem hc_15 : th_cln hm_15 := th_cln_pr hc_14 (by decide +kernel)
def hm_16 : th_M := th_mk hm_15 6 4
theorem hc_16 : th_cln hm_16 := th_cln_mk hc_15 (by decide +kernel)
def hm_17 : th_M := m_S hm_16 4 4
theorem hc_17 : th_cln hm_17 := th_cln_mS hc_16 (by decide +kernel) (by decide +kernel) (by decide +kernel) (by decide +kernel) (by decide +kernel) (by decide +kernel) (by decide +kernel) (by decide +kernel) (by decide +kernel) (by decide +kernel)
def hm_18 : th_M := th_pr hm_17 1 0 4 (6, 4)
theorem hc_18 : th_cln hm_18 := th_cln_pr hc_17 (by decide +kernel)
def hm_19 : th_M := th_mk hm_18 2 0
theorem hc_19 : th_cln hm_19 := th_cln_mk hc_18 (by decide +kernel)
def hm_20 : th_M := th_pr hm_19 0 0 1 (2, 0)
theorem hc_20 : th_cln hm_20 := th_cln_pr hc_19 (by decide +kernel)
def hm_21 : th_M := th_mk hm_20 16 0
theorem hc_21 : th_cln hm_21 := th_cln_mk hc_20 (by decide +kernel)
def hm_22 : th_M := m_M hm_21 0
theorem hc_22 : th_cln hm_22 := th_cln_mM hc_21 (by decide +kernel) (by decide +kernel) (by decide +kernel)
def hm_23 : th_M := th_pr hm_22 2 0 0 (16, 0)
theorem hc_23 : th_cln hm_23 := th_cln_pr hc_22 (by decide +kernel)
def hm_24 : th_M := th_mk hm_23 16 1
theorem hc_24 : th_cln hm_24 := th_cln_mk hc_23 (by decide +kernel)
def hm_25 : th_M := m_M hm_24 1
theorem hc_25 : th_cln hm_25 := th_cln_mM hc_24 (by decide +kernel) (by decide +kernel) (by decide +kernel)
def hm_26 : th_M := th_pr hm_25 2 0 1 (16, 1)
theorem hc_26 : th_cln hm_26 := th_cln_pr hc_25 (by decide +kernel)
def hm_27 : th_M := th_mk hm_26 16 2
theorem hc_27 : th_cln hm_27 := th_cln_mk hc_26 (by decide +kernel)
def hm_28 : th_M := m_M hm_27 2
theorem hc_28 : th_cln hm_28 := th_cln_mM hc_27 (by decide +kernel) (by decide +kernel) (by decide +kernel)
def hm_29 : th_M := th_pr hm_28 2 0 2 (16, 2)
theorem hc_29 : th_cln hm_29 := th_cln_pr hc_28 (by decide +kernel)
def hm_30 : th_M := th_mk hm_29 3 0
theorem hc_30 : th_cln hm_30 := th_cln_mk hc_29 (by decide +kernel)
def hm_31 : th_M := th_pr hm_30 0 0 2 (3, 0)
theorem hc_31 : th_cln hm_31 := th_cln_pr hc_30 (by decide +kernel)
def hm_32 : th_M := th_mk hm_31 14 8
theorem hc_32 : th_cln hm_32 := th_cln_mk hc_31 (by decide +kernel)
def hm_33 : th_M := m_R hm_32 8
theorem hc_33 : th_cln hm_33 := th_cln_mR hc_32 (by decide +kernel) (by decide +kernel)
def hm_34 : th_M := th_pr hm_33 3 0 0 (14, 8)
theorem hc_34 : th_cln hm_34 := th_cln_pr hc_33 (by decide +kernel)
def hm_35 : th_M := th_mk hm_34 14 9
theorem hc_35 : th_cln hm_35 := th_cln_mk hc_34 (by decide +kernel)
def hm_36 : th_M := m_R hm_35 9
theorem hc_36 : th_cln hm_36 := th_cln_mR hc_35 (by decide +kernel) (by decide +kernel)
def hm_37 : th_M := th_pr hm_36 3 0 1 (14, 9)
theorem hc_37 : th_cln hm_37 := th_cln_pr hc_36 (by decide +kernel)
def hm_38 : th_M := th_mk hm_37 14 10
theorem hc_38 : th_cln hm_38 := th_cln_mk hc_37 (by decide +kernel)
def hm_39 : th_M := m_R hm_38 10
theorem hc_39 : th_cln hm_39 := th_cln_mR hc_38 (by decide +kernel) (by decide +kernel)
def hm_40 : th_M := th_pr hm_39 3 0 2 (14, 10)
theorem hc_40 : th_cln hm_40 := th_cln_pr hc_39 (by decide +kernel)
def hm_41 : th_M := th_mk hm_40 4 0
theorem hc_41 : th_cln hm_41 := th_cln_mk hc_40 (by decide +kernel)
def hm_42 : th_M := th_pr hm_41 0 0 3 (4, 0)
theorem hc_42 : th_cln hm_42 := th_cln_pr hc_41 (by decide +kernel)
def hm_43 : th_M := th_mk hm_42 5 0
theorem hc_43 : th_cln hm_43 := th_cln_mk hc_42 (by decide +kernel)
def hm_44 : th_M := th_pr hm_43 0 0 4 (5, 0)
theorem hc_44 : th_cln hm_44 := th_cln_pr hc_43 (by decide +kernel)
def hm_45 : th_M := th_pi hm_44 0 0 6 (4)
theorem hc_45 : th_cln hm_45 := th_cln_pi hc_44 (by decide +kernel)
def hm_46 : th_M := th_pi hm_45 0 0 7 (-1)
theorem hc_46 : th_cln hm_46 := th_cln_pi hc_45 (by decide +kernel)
def hm_47 : th_M := th_mk hm_46 20 0
theorem hc_47 : th_cln hm_47 := th_cln_mk hc_46 (by decide +kernel)
def hm_48 : th_M := th_mk hm_47 21 0
theorem hc_48 : th_cln hm_48 := th_cln_mk hc_47 (by decide +kernel)
def hm_49 : th_M := th_pr hm_48 20 0 0 (21, 0)
theorem hc_49 : th_cln hm_49 := th_cln_pr hc_48 (by decide +kernel)
def hm_50 : th_M := th_mk hm_49 22 0
theorem hc_50 : th_cln hm_50 := th_cln_mk hc_49 (by decide +kernel)
def hm_51 : th_M := th_pr hm_50 20 0 1 (22, 0)
theorem hc_51 : th_cln hm_51 := th_cln_pr hc_50 (by decide +kernel)
def hm_52 : th_M := th_mk hm_51 23 0
theorem hc_52 : th_cln hm_52 := th_cln_mk hc_51 (by decide +kernel)
def hm_53 : th_M := th_pr hm_52 20 0 2 (23, 0)
theorem hc_53 : th_cln hm_53 := th_cln_pr hc_52 (by decide +kernel)
def hm_54 : th_M := th_mk hm_53 24 0
theorem hc_54 : th_cln hm_54 := th_cln_mk hc_53 (by decide +kernel)
def hm_55 : th_M := th_pr hm_54 20 0 3 (24, 0)
theorem hc_55 : th_cln hm_55 := th_cln_pr hc_54 (by decide +kernel)
def hm_56 : th_M := th_mk hm_55 25 0
theorem hc_56 : th_cln hm_56 := th_cln_mk hc_55 (by decide +kernel)
def hm_57 : th_M := th_pr hm_56 20 0 4 (25, 0)
theorem hc_57 : th_cln hm_57 := th_cln_pr hc_56 (by decide +kernel)
def hm_58 : th_M := th_mk hm_57 26 0
theorem hc_58 : th_cln hm_58 := th_cln_mk hc_57 (by decide +kernel)
def hm_59 : th_M := th_pr hm_58 20 0 5 (26, 0)
theorem hc_59 : th_cln hm_59 := th_cln_pr hc_58 (by decide +kernel)
def hm_60 : th_M := th_mk hm_59 27 0
theorem hc_60 : th_cln hm_60 := th_cln_mk hc_59 (by decide +kernel)
def hm_61 : th_M := th_pr hm_60 20 0 6 (27, 0)
theorem hc_61 : th_cln hm_61 := th_cln_pr hc_60 (by decide +kernel)
def hm_62 : th_M := th_mk hm_61 28 0
theorem hc_62 : th_cln hm_62 := th_cln_mk hc_61 (by decide +kernel)
def hm_63 : th_M := th_pr hm_62 20 0 7 (28, 0)
theorem hc_63 : th_cln hm_63 := th_cln_pr hc_62 (by decide +kernel)
def hm_64 : th_M := th_mk hm_63 29 0
theorem hc_64 : th_cln hm_64 := th_cln_mk hc_63 (by decide +kernel)
def hm_65 : th_M := th_pr hm_64 20 0 8 (29, 0)
theorem hc_65 : th_cln hm_65 := th_cln_pr hc_64 (by decide +kernel)
def hm_66 : th_M := th_mk hm_65 30 0
theorem hc_66 : th_cln hm_66 := th_cln_mk hc_65 (by decide +kernel)
def hm_67 : th_M := th_pr hm_66 20 0 9 (30, 0)
theorem hc_67 : th_cln hm_67 := th_cln_pr hc_66 (by decide +kernel)
def hm_68 : th_M := th_mk hm_67 31 0
theorem hc_68 : th_cln hm_68 := th_cln_mk hc_67 (by decide +kernel)
def hm_69 : th_M := th_pr hm_68 20 0 10 (31, 0)
theorem hc_69 : th_cln hm_69 := th_cln_pr hc_68 (by decide +kernel)
def hm_70 : th_M := th_mk hm_69 32 0
theorem hc_70 : th_cln hm_70 := th_cln_mk hc_69 (by decide +kernel)
def hm_71 : th_M := th_pr hm_70 20 0 11 (32, 0)
theorem hc_71 : th_cln hm_71 := th_cln_pr hc_70 (by decide +kernel)
def hm_72 : th_M := th_mk hm_71 33 0
theorem hc_72 : th_cln hm_72 := th_cln_mk hc_71 (by decide +kernel)
def hm_73 : th_M := th_pr hm_72 20 0 12 (33, 0)
theorem hc_73 : th_cln hm_73 := th_cln_pr hc_72 (by decide +kernel)
def hm_74 : th_M := th_mk hm_73 34 0
theorem hc_74 : th_cln hm_74 := th_cln_mk hc_73 (by decide +kernel)
def hm_75 : th_M := th_pr hm_74 20 0 13 (34, 0)
theorem hc_75 : th_cln hm_75 := th_cln_pr hc_74 (by decide +kernel)
def hm_76 : th_M := th_mk hm_75 35 0
theorem hc_76 : th_cln hm_76 := th_cln_mk hc_75 (by decide +kernel)
def hm_77 : th_M := th_pr hm_76 20 0 14 (35, 0)
theorem hc_77 : th_cln hm_77 := th_cln_pr hc_76 (by decide +kernel)
def hm_78 : th_M := th_mk hm_77 36 0
theorem hc_78 : th_cln hm_78 := th_cln_mk hc_77 (by decide +kernel)
def hm_79 : th_M := th_pr hm_78 20 0 15 (36, 0)
theorem hc_79 : th_cln hm_79 := th_cln_pr hc_78 (by decide +kernel)
def hm_80 : th_M := th_mk hm_79 37 0
theorem hc_80 : th_cln hm_80 := th_cln_mk hc_79 (by decide +kernel)
def hm_81 : th_M := th_pr hm_80 20 0 16 (37, 0)
theorem hc_81 : th_cln hm_81 := th_cln_pr hc_80 (by decide +kernel)
def hm_82 : th_M := th_mk hm_81 38 0
theorem hc_82 : th_cln hm_82 := th_cln_mk hc_81 (by decide +kernel)
def hm_83 : th_M := th_pr hm_82 20 0 17 (38, 0)
theorem hc_83 : th_cln hm_83 := th_cln_pr hc_82 (by decide +kernel)
def hm_84 : th_M := th_mk hm_83 39 0
theorem hc_84 : th_cln hm_84 := th_cln_mk hc_83 (by decide +kernel)
def hm_85 : th_M := th_pr hm_84 20 0 18 (39, 0)
theorem hc_85 : th_cln hm_85 := th_cln_pr hc_84 (by decide +kernel)
def hm_86 : th_M := th_mk hm_85 40 0
theorem hc_86 : th_cln hm_86 := th_cln_mk hc_85 (by decide +kernel)
def hm_87 : th_M := th_pr hm_86 20 0 19 (40, 0)
theorem hc_87 : th_cln hm_87 := th_cln_pr hc_86 (by decide +kernel)
def hm_88 : th_M := th_mk hm_87 41 0
theorem hc_88 : th_cln hm_88 := th_cln_mk hc_87 (by decide +kernel)
def hm_89 : th_M := th_pr hm_88 20 0 20 (41, 0)
theorem hc_89 : th_cln hm_89 := th_cln_pr hc_88 (by decide +kernel)
def hm_90 : th_M := th_mk hm_89 42 0
theorem hc_90 : th_cln hm_90 := th_cln_mk hc_89 (by decide +kernel)
def hm_91 : th_M := th_pr hm_90 20 0 21 (42, 0)
theorem hc_91 : th_cln hm_91 := th_cln_pr hc_90 (by decide +kernel)
def hm_92 : th_M := th_mk hm_91 43 0
theorem hc_92 : th_cln hm_92 := th_cln_mk hc_91 (by decide +kernel)
def hm_93 : th_M := th_pr hm_92 20 0 22 (43, 0)
theorem hc_93 : th_cln hm_93 := th_cln_pr hc_92 (by decide +kernel)
def hm_94 : th_M := th_mk hm_93 44 0
theorem hc_94 : th_cln hm_94 := th_cln_mk hc_93 (by decide +kernel)
def hm_95 : th_M := th_pr hm_94 20 0 23 (44, 0)
theorem hc_95 : th_cln hm_95 := th_cln_pr hc_94 (by decide +kernel)
def hm_96 : th_M := th_mk hm_95 45 0
theorem hc_96 : th_cln hm_96 := th_cln_mk hc_95 (by decide +kernel)
def hm_97 : th_M := th_pr hm_96 20 0 24 (45, 0)
theorem hc_97 : th_cln hm_97 := th_cln_pr hc_96 (by decide +kernel)
def hm_98 : th_M := th_mk hm_97 46 0
theorem hc_98 : th_cln hm_98 := th_cln_mk hc_97 (by decide +kernel)
def hm_99 : th_M := th_pr hm_98 20 0 25 (46, 0)
theorem hc_99 : th_cln hm_99 := th_cln_pr hc_98 (by decide +kernel)
def hm_100 : th_M := th_mk hm_99 47 0
theorem hc_100 : th_cln hm_100 := th_cln_mk hc_99 (by decide +kernel)
def hm_101 : th_M := th_pr hm_100 20 0 26 (47, 0)
theorem hc_101 : th_cln hm_101 := th_cln_pr hc_100 (by decide +kernel)
def hm_102 : th_M := th_mk hm_101 48 0
theorem hc_102 : th_cln hm_102 := th_cln_mk hc_101 (by decide +kernel)
def hm_103 : th_M := th_pr hm_102 20 0 27 (48, 0)
theorem hc_103 : th_cln hm_103 := th_cln_pr hc_102 (by decide +kernel)
def hm_104 : th_M := th_mk hm_103 49 0
theorem hc_104 : th_cln hm_104 := th_cln_mk hc_103 (by decide +kernel)
def hm_105 : th_M := th_pr hm_104 20 0 28 (49, 0)
theorem hc_105 : th_cln hm_105 := th_cln_pr hc_104 (by decide +kernel)
def hm_106 : th_M := th_mk hm_105 50 0
theorem hc_106 : th_cln hm_106 := th_cln_mk hc_105 (by decide +kernel)
def hm_107 : th_M := th_pr hm_106 20 0 29 (50, 0)
theorem hc_107 : th_cln hm_107 := th_cln_pr hc_106 (by decide +kernel)
def hm_108 : th_M := th_mk hm_107 51 0
theorem hc_108 : th_cln hm_108 := th_cln_mk hc_107 (by decide +kernel)
def hm_109 : th_M := th_pr hm_108 20 0 30 (51, 0)
theorem hc_109 : th_cln hm_109 := th_cln_pr hc_108 (by decide +kernel)
def hm_110 : th_M := th_mk hm_109 52 0
theorem hc_110 : th_cln hm_110 := th_cln_mk hc_109 (by decide +kernel)
def hm_111 : th_M := th_pr hm_110 20 0 31 (52, 0)
theorem hc_111 : th_cln hm_111 := th_cln_pr hc_110 (by decide +kernel)
def hm_112 : th_M := th_mk hm_111 53 0
theorem hc_112 : th_cln hm_112 := th_cln_mk hc_111 (by decide +kernel)
def hm_113 : th_M := th_pr hm_112 20 0 32 (53, 0)
theorem hc_113 : th_cln hm_113 := th_cln_pr hc_112 (by decide +kernel)
def hm_114 : th_M := th_pi hm_113 20 0 33 (4)
theorem hc_114 : th_cln hm_114 := th_cln_pi hc_113 (by decide +kernel)
def hm_115 : th_M := th_pi hm_114 44 0 0 (-1)
theorem hc_115 : th_cln hm_115 := th_cln_pi hc_114 (by decide +kernel)
def hm_116 : th_M := th_pi hm_115 44 0 1 (-1)
theorem hc_116 : th_cln hm_116 := th_cln_pi hc_115 (by decide +kernel)
def hm_117 : th_M := th_pi hm_116 44 0 2 (-1)
theorem hc_117 : th_cln hm_117 := th_cln_pi hc_116 (by decide +kernel)
def hm_118 : th_M := th_pi hm_117 35 0 0 (24)
theorem hc_118 : th_cln hm_118 := th_cln_pi hc_117 (by decide +kernel)
def hm_119 : th_M := th_pi hm_118 35 0 1 (24)
theorem hc_119 : th_cln hm_119 := th_cln_pi hc_118 (by decide +kernel)
def hm_120 : th_M := th_pi hm_119 35 0 2 (24)
theorem hc_120 : th_cln hm_120 := th_cln_pi hc_119 (by decide +kernel)
def hm_121 : th_M := th_pi hm_120 35 0 3 (24)
theorem hc_121 : th_cln hm_121 := th_cln_pi hc_120 (by decide +kernel)
def hm_122 : th_M := th_pi hm_121 35 0 4 (24)
theorem hc_122 : th_cln hm_122 := th_cln_pi hc_121 (by decide +kernel)
def hm_123 : th_M := th_pi hm_122 53 0 6 (-1)
theorem hc_123 : th_cln hm_123 := th_cln_pi hc_122 (by decide +kernel)
end
section
set_option maxRecDepth 100000 in
set_option maxHeartbeats 4000000 in
theorem k_H (l : Launch) (hl : l.stackTraces = false) : th_F l yn_H_init cb_H_init 2 none { frames := 3, cells := 85, slots := 881, locals := 62 } [.inr (some (0, 0))] hm_1 (th_fin hm_46) := by
  refine th_of hl (by decide +kernel) (Nat.le_of_ble_eq_true rfl) (fun z C hQ hN => ?_)
  refine th_aload_n C dc_H_init_0 rfl rfl ?_
  refine th_objInit C dc_H_init_1 (tb 65 (by decide +kernel) rfl) oi_1 oi_2 (by decide) (Nat.le_of_ble_eq_true rfl) ?_
  refine th_aload_n C dc_H_init_4 rfl rfl ?_
  refine th_iconst (v := 5) C dc_H_init_5 th_c_5 ?_
  refine th_anew (mu := hm_1) (t := 1) (i := 0) (N := 5) (n := 1) C dc_H_init_6 rfl (fun _ => rfl) (tb 68 (by decide +kernel) rfl) (by decide) (by decide) (by decide) (by decide) (by decide +kernel) (by decide +kernel) (by decide) (by decide +kernel) (by rw [hc_1.1]; rfl) (fun k => (hc_1.2 1 0 k (by decide +kernel)).2) (by decide) (by decide) ?_
  change th_G l z _ _ _ _ hm_2 _ _
  refine th_putR (mu := hm_2) C dc_H_init_9 cl_0 fd_H_11 (by decide +kernel) rfl rfl hN rfl rfl (fun _ => rfl) (fun _ => rfl) ?_
  change th_G l z _ _ _ _ hm_3 _ _
  refine th_iconst (v := 0) C dc_H_init_12 th_c_0 ?_
  refine th_istore_n (lv' := [(0, .inr (some (0, 0))), (1, .inl ((0 : Int32)))]) C dc_H_init_13 rfl (by decide) rfl ?_
  refine th_iload_n C dc_H_init_14 rfl rfl ?_
  refine th_iconst (v := 5) C dc_H_init_15 th_c_5 ?_
  refine tq_icmp_ge (tgt := 39) C dc_H_init_16 (by decide) th_l_0 th_l_5 (fun c => ?_) (fun c => ?_)
  · exact absurd c (by decide)
  · refine th_aload_n C dc_H_init_19 rfl rfl ?_
    refine th_getR (mu := hm_3) (v := some (1, 0)) C dc_H_init_20 (by decide +kernel) cl_0.1 cl_0.2.1 cl_0.2.2.1 fd_H_11.1 rfl fd_H_11.2 (by decide +kernel) ?_
    refine th_iload_n C dc_H_init_23 rfl rfl ?_
    refine th_new (mu := hm_3) (t := 6) (i := 0) (n := 2) C dc_H_init_24 cl_6 (tb 68 (by decide +kernel) rfl) (tb 70 (by decide +kernel) rfl) (tb 48 (by decide +kernel) rfl) (by decide +kernel) (by decide +kernel) (by decide) (by decide +kernel) (th_hz hc_3 (by decide +kernel) hd_6) (by decide) (by decide) ?_
    change th_G l z _ _ _ _ hm_4 _ _
    refine th_dup C dc_H_init_27 ?_
    refine th_iload_n C dc_H_init_28 rfl rfl ?_
    refine tk_callI (m1 := hm_5) C (k_S l hl hm_4 0 3 0 (by decide) hc_4 (by decide +kernel) (by decide +kernel) (by decide +kernel) (by decide +kernel) (by decide +kernel) (by decide +kernel) (by decide +kernel) (by decide +kernel) (by decide +kernel) (by decide +kernel) (by decide +kernel) (by decide +kernel)) okI_H_15 rfl (Nat.le_of_ble_eq_true rfl) dc_H_init_29 rfl ?_
    refine th_aast (mu := hm_5) (n := 0) (ci := 4) (r := (rn_S, tf_S, 18)) C dc_H_init_32 rfl (fun _ => rfl) rfl rfl (by decide +kernel) (by decide +kernel) (th_ixN th_l_0 (by decide) (by decide +kernel)) ?_
    change th_G l z _ _ _ _ hm_6 _ _
    refine th_iinc (v := 1) (lv' := [(0, .inr (some (0, 0))), (1, .inl ((1 : Int32)))]) C dc_H_init_33 rfl (by decide) (by decide) rfl ?_
    refine th_goto (tgt := 14) C dc_H_init_36 (by decide) ?_
    refine th_iload_n C dc_H_init_14 rfl rfl ?_
    refine th_iconst (v := 5) C dc_H_init_15 th_c_5 ?_
    refine tq_icmp_ge (tgt := 39) C dc_H_init_16 (by decide) th_l_1 th_l_5 (fun c => ?_) (fun c => ?_)
    · exact absurd c (by decide)
    · refine th_aload_n C dc_H_init_19 rfl rfl ?_
      refine th_getR (mu := hm_6) (v := some (1, 0)) C dc_H_init_20 (by decide +kernel) cl_0.1 cl_0.2.1 cl_0.2.2.1 fd_H_11.1 rfl fd_H_11.2 (by decide +kernel) ?_
      refine th_iload_n C dc_H_init_23 rfl rfl ?_
      refine th_new (mu := hm_6) (t := 6) (i := 1) (n := 15) C dc_H_init_24 cl_6 (tb 68 (by decide +kernel) rfl) (tb 70 (by decide +kernel) rfl) (tb 48 (by decide +kernel) rfl) (by decide +kernel) (by decide +kernel) (by decide) (by decide +kernel) (th_hz hc_6 (by decide +kernel) hd_6) (by decide) (by decide) ?_
      change th_G l z _ _ _ _ hm_7 _ _
      refine th_dup C dc_H_init_27 ?_
      refine th_iload_n C dc_H_init_28 rfl rfl ?_
      refine tk_callI (m1 := hm_8) C (k_S l hl hm_7 1 16 1 (by decide) hc_7 (by decide +kernel) (by decide +kernel) (by decide +kernel) (by decide +kernel) (by decide +kernel) (by decide +kernel) (by decide +kernel) (by decide +kernel) (by decide +kernel) (by decide +kernel) (by decide +kernel) (by decide +kernel)) okI_H_15 rfl (Nat.le_of_ble_eq_true rfl) dc_H_init_29 rfl ?_
      refine th_aast (mu := hm_8) (n := 1) (ci := 4) (r := (rn_S, tf_S, 18)) C dc_H_init_32 rfl (fun _ => rfl) rfl rfl (by decide +kernel) (by decide +kernel) (th_ixN th_l_1 (by decide) (by decide +kernel)) ?_
      change th_G l z _ _ _ _ hm_9 _ _
      refine th_iinc (v := 2) (lv' := [(0, .inr (some (0, 0))), (1, .inl ((2 : Int32)))]) C dc_H_init_33 rfl (by decide) (by decide) rfl ?_
      refine th_goto (tgt := 14) C dc_H_init_36 (by decide) ?_
      refine th_iload_n C dc_H_init_14 rfl rfl ?_
      refine th_iconst (v := 5) C dc_H_init_15 th_c_5 ?_
      refine tq_icmp_ge (tgt := 39) C dc_H_init_16 (by decide) th_l_2 th_l_5 (fun c => ?_) (fun c => ?_)
      · exact absurd c (by decide)
      · refine th_aload_n C dc_H_init_19 rfl rfl ?_
        refine th_getR (mu := hm_9) (v := some (1, 0)) C dc_H_init_20 (by decide +kernel) cl_0.1 cl_0.2.1 cl_0.2.2.1 fd_H_11.1 rfl fd_H_11.2 (by decide +kernel) ?_
        refine th_iload_n C dc_H_init_23 rfl rfl ?_
        refine th_new (mu := hm_9) (t := 6) (i := 2) (n := 28) C dc_H_init_24 cl_6 (tb 68 (by decide +kernel) rfl) (tb 70 (by decide +kernel) rfl) (tb 48 (by decide +kernel) rfl) (by decide +kernel) (by decide +kernel) (by decide) (by decide +kernel) (th_hz hc_9 (by decide +kernel) hd_6) (by decide) (by decide) ?_
        change th_G l z _ _ _ _ hm_10 _ _
        refine th_dup C dc_H_init_27 ?_
        refine th_iload_n C dc_H_init_28 rfl rfl ?_
        refine tk_callI (m1 := hm_11) C (k_S l hl hm_10 2 29 2 (by decide) hc_10 (by decide +kernel) (by decide +kernel) (by decide +kernel) (by decide +kernel) (by decide +kernel) (by decide +kernel) (by decide +kernel) (by decide +kernel) (by decide +kernel) (by decide +kernel) (by decide +kernel) (by decide +kernel)) okI_H_15 rfl (Nat.le_of_ble_eq_true rfl) dc_H_init_29 rfl ?_
        refine th_aast (mu := hm_11) (n := 2) (ci := 4) (r := (rn_S, tf_S, 18)) C dc_H_init_32 rfl (fun _ => rfl) rfl rfl (by decide +kernel) (by decide +kernel) (th_ixN th_l_2 (by decide) (by decide +kernel)) ?_
        change th_G l z _ _ _ _ hm_12 _ _
        refine th_iinc (v := 3) (lv' := [(0, .inr (some (0, 0))), (1, .inl ((3 : Int32)))]) C dc_H_init_33 rfl (by decide) (by decide) rfl ?_
        refine th_goto (tgt := 14) C dc_H_init_36 (by decide) ?_
        refine th_iload_n C dc_H_init_14 rfl rfl ?_
        refine th_iconst (v := 5) C dc_H_init_15 th_c_5 ?_
        refine tq_icmp_ge (tgt := 39) C dc_H_init_16 (by decide) th_l_3 th_l_5 (fun c => ?_) (fun c => ?_)
        · exact absurd c (by decide)
        · refine th_aload_n C dc_H_init_19 rfl rfl ?_
          refine th_getR (mu := hm_12) (v := some (1, 0)) C dc_H_init_20 (by decide +kernel) cl_0.1 cl_0.2.1 cl_0.2.2.1 fd_H_11.1 rfl fd_H_11.2 (by decide +kernel) ?_
          refine th_iload_n C dc_H_init_23 rfl rfl ?_
          refine th_new (mu := hm_12) (t := 6) (i := 3) (n := 41) C dc_H_init_24 cl_6 (tb 68 (by decide +kernel) rfl) (tb 70 (by decide +kernel) rfl) (tb 48 (by decide +kernel) rfl) (by decide +kernel) (by decide +kernel) (by decide) (by decide +kernel) (th_hz hc_12 (by decide +kernel) hd_6) (by decide) (by decide) ?_
          change th_G l z _ _ _ _ hm_13 _ _
          refine th_dup C dc_H_init_27 ?_
          refine th_iload_n C dc_H_init_28 rfl rfl ?_
          refine tk_callI (m1 := hm_14) C (k_S l hl hm_13 3 42 3 (by decide) hc_13 (by decide +kernel) (by decide +kernel) (by decide +kernel) (by decide +kernel) (by decide +kernel) (by decide +kernel) (by decide +kernel) (by decide +kernel) (by decide +kernel) (by decide +kernel) (by decide +kernel) (by decide +kernel)) okI_H_15 rfl (Nat.le_of_ble_eq_true rfl) dc_H_init_29 rfl ?_
          refine th_aast (mu := hm_14) (n := 3) (ci := 4) (r := (rn_S, tf_S, 18)) C dc_H_init_32 rfl (fun _ => rfl) rfl rfl (by decide +kernel) (by decide +kernel) (th_ixN th_l_3 (by decide) (by decide +kernel)) ?_
          change th_G l z _ _ _ _ hm_15 _ _
          refine th_iinc (v := 4) (lv' := [(0, .inr (some (0, 0))), (1, .inl ((4 : Int32)))]) C dc_H_init_33 rfl (by decide) (by decide) rfl ?_
          refine th_goto (tgt := 14) C dc_H_init_36 (by decide) ?_
          refine th_iload_n C dc_H_init_14 rfl rfl ?_
          refine th_iconst (v := 5) C dc_H_init_15 th_c_5 ?_
          refine tq_icmp_ge (tgt := 39) C dc_H_init_16 (by decide) th_l_4 th_l_5 (fun c => ?_) (fun c => ?_)
          · exact absurd c (by decide)
          · refine th_aload_n C dc_H_init_19 rfl rfl ?_
            refine th_getR (mu := hm_15) (v := some (1, 0)) C dc_H_init_20 (by decide +kernel) cl_0.1 cl_0.2.1 cl_0.2.2.1 fd_H_11.1 rfl fd_H_11.2 (by decide +kernel) ?_
            refine th_iload_n C dc_H_init_23 rfl rfl ?_
            refine th_new (mu := hm_15) (t := 6) (i := 4) (n := 54) C dc_H_init_24 cl_6 (tb 68 (by decide +kernel) rfl) (tb 70 (by decide +kernel) rfl) (tb 48 (by decide +kernel) rfl) (by decide +kernel) (by decide +kernel) (by decide) (by decide +kernel) (th_hz hc_15 (by decide +kernel) hd_6) (by decide) (by decide) ?_
            change th_G l z _ _ _ _ hm_16 _ _
            refine th_dup C dc_H_init_27 ?_
            refine th_iload_n C dc_H_init_28 rfl rfl ?_
            refine tk_callI (m1 := hm_17) C (k_S l hl hm_16 4 55 4 (by decide) hc_16 (by decide +kernel) (by decide +kernel) (by decide +kernel) (by decide +kernel) (by decide +kernel) (by decide +kernel) (by decide +kernel) (by decide +kernel) (by decide +kernel) (by decide +kernel) (by decide +kernel) (by decide +kernel)) okI_H_15 rfl (Nat.le_of_ble_eq_true rfl) dc_H_init_29 rfl ?_
            refine th_aast (mu := hm_17) (n := 4) (ci := 4) (r := (rn_S, tf_S, 18)) C dc_H_init_32 rfl (fun _ => rfl) rfl rfl (by decide +kernel) (by decide +kernel) (th_ixN th_l_4 (by decide) (by decide +kernel)) ?_
            change th_G l z _ _ _ _ hm_18 _ _
            refine th_iinc (v := 5) (lv' := [(0, .inr (some (0, 0))), (1, .inl ((5 : Int32)))]) C dc_H_init_33 rfl (by decide) (by decide) rfl ?_
            refine th_goto (tgt := 14) C dc_H_init_36 (by decide) ?_
            refine th_iload_n C dc_H_init_14 rfl rfl ?_
            refine th_iconst (v := 5) C dc_H_init_15 th_c_5 ?_
            refine tq_icmp_ge (tgt := 39) C dc_H_init_16 (by decide) th_l_5 th_l_5 (fun c => ?_) (fun c => ?_)
            · refine th_aload_n C dc_H_init_39 rfl rfl ?_
              refine th_iconst (v := 3) C dc_H_init_40 th_c_3 ?_
              refine th_anew (mu := hm_18) (t := 2) (i := 0) (N := 3) (n := 67) C dc_H_init_41 rfl (fun _ => rfl) (tb 200 (by decide +kernel) rfl) (by decide) (by decide) (by decide) (by decide) (by decide +kernel) (by decide +kernel) (by decide) (by decide +kernel) (by rw [hc_18.1]; rfl) (fun k => (hc_18.2 2 0 k (by decide +kernel)).2) (by decide) (by decide) ?_
              change th_G l z _ _ _ _ hm_19 _ _
              refine th_putR (mu := hm_19) C dc_H_init_44 cl_0 fd_H_20 (by decide +kernel) rfl rfl hN rfl rfl (fun _ => rfl) (fun _ => rfl) ?_
              change th_G l z _ _ _ _ hm_20 _ _
              refine th_iconst (v := 0) C dc_H_init_47 th_c_0 ?_
              refine th_istore_n (lv' := [(0, .inr (some (0, 0))), (1, .inl ((0 : Int32)))]) C dc_H_init_48 rfl (by decide) rfl ?_
              refine th_iload_n C dc_H_init_49 rfl rfl ?_
              refine th_iconst (v := 3) C dc_H_init_50 th_c_3 ?_
              refine tq_icmp_ge (tgt := 73) C dc_H_init_51 (by decide) th_l_0 th_l_3 (fun c => ?_) (fun c => ?_)
              · exact absurd c (by decide)
              · refine th_aload_n C dc_H_init_54 rfl rfl ?_
                refine th_getR (mu := hm_20) (v := some (2, 0)) C dc_H_init_55 (by decide +kernel) cl_0.1 cl_0.2.1 cl_0.2.2.1 fd_H_20.1 rfl fd_H_20.2 (by decide +kernel) ?_
                refine th_iload_n C dc_H_init_58 rfl rfl ?_
                refine th_new (mu := hm_20) (t := 16) (i := 0) (n := 68) C dc_H_init_59 cl_16 (tb 200 (by decide +kernel) rfl) (tb 202 (by decide +kernel) rfl) (tb 52 (by decide +kernel) rfl) (by decide +kernel) (by decide +kernel) (by decide) (by decide +kernel) (th_hz hc_20 (by decide +kernel) hd_16) (by decide) (by decide) ?_
                change th_G l z _ _ _ _ hm_21 _ _
                refine th_dup C dc_H_init_62 ?_
                refine tk_callN (m1 := hm_22) C (k_M l hl hm_21 0 69 (by decide) hc_21 (by decide +kernel) (by decide +kernel) (by decide +kernel) (by decide +kernel) (by decide +kernel)) okN_H_24 rfl (Nat.le_of_ble_eq_true rfl) dc_H_init_63 rfl ?_
                refine th_aast (mu := hm_22) (n := 0) (ci := 0) (r := (rn_M, tf_M, 3)) C dc_H_init_66 rfl (fun _ => rfl) rfl rfl (by decide +kernel) (by decide +kernel) (th_ixN th_l_0 (by decide) (by decide +kernel)) ?_
                change th_G l z _ _ _ _ hm_23 _ _
                refine th_iinc (v := 1) (lv' := [(0, .inr (some (0, 0))), (1, .inl ((1 : Int32)))]) C dc_H_init_67 rfl (by decide) (by decide) rfl ?_
                refine th_goto (tgt := 49) C dc_H_init_70 (by decide) ?_
                refine th_iload_n C dc_H_init_49 rfl rfl ?_
                refine th_iconst (v := 3) C dc_H_init_50 th_c_3 ?_
                refine tq_icmp_ge (tgt := 73) C dc_H_init_51 (by decide) th_l_1 th_l_3 (fun c => ?_) (fun c => ?_)
                · exact absurd c (by decide)
                · refine th_aload_n C dc_H_init_54 rfl rfl ?_
                  refine th_getR (mu := hm_23) (v := some (2, 0)) C dc_H_init_55 (by decide +kernel) cl_0.1 cl_0.2.1 cl_0.2.2.1 fd_H_20.1 rfl fd_H_20.2 (by decide +kernel) ?_
                  refine th_iload_n C dc_H_init_58 rfl rfl ?_
                  refine th_new (mu := hm_23) (t := 16) (i := 1) (n := 71) C dc_H_init_59 cl_16 (tb 200 (by decide +kernel) rfl) (tb 202 (by decide +kernel) rfl) (tb 52 (by decide +kernel) rfl) (by decide +kernel) (by decide +kernel) (by decide) (by decide +kernel) (th_hz hc_23 (by decide +kernel) hd_16) (by decide) (by decide) ?_
                  change th_G l z _ _ _ _ hm_24 _ _
                  refine th_dup C dc_H_init_62 ?_
                  refine tk_callN (m1 := hm_25) C (k_M l hl hm_24 1 72 (by decide) hc_24 (by decide +kernel) (by decide +kernel) (by decide +kernel) (by decide +kernel) (by decide +kernel)) okN_H_24 rfl (Nat.le_of_ble_eq_true rfl) dc_H_init_63 rfl ?_
                  refine th_aast (mu := hm_25) (n := 1) (ci := 0) (r := (rn_M, tf_M, 3)) C dc_H_init_66 rfl (fun _ => rfl) rfl rfl (by decide +kernel) (by decide +kernel) (th_ixN th_l_1 (by decide) (by decide +kernel)) ?_
                  change th_G l z _ _ _ _ hm_26 _ _
                  refine th_iinc (v := 2) (lv' := [(0, .inr (some (0, 0))), (1, .inl ((2 : Int32)))]) C dc_H_init_67 rfl (by decide) (by decide) rfl ?_
                  refine th_goto (tgt := 49) C dc_H_init_70 (by decide) ?_
                  refine th_iload_n C dc_H_init_49 rfl rfl ?_
                  refine th_iconst (v := 3) C dc_H_init_50 th_c_3 ?_
                  refine tq_icmp_ge (tgt := 73) C dc_H_init_51 (by decide) th_l_2 th_l_3 (fun c => ?_) (fun c => ?_)
                  · exact absurd c (by decide)
                  · refine th_aload_n C dc_H_init_54 rfl rfl ?_
                    refine th_getR (mu := hm_26) (v := some (2, 0)) C dc_H_init_55 (by decide +kernel) cl_0.1 cl_0.2.1 cl_0.2.2.1 fd_H_20.1 rfl fd_H_20.2 (by decide +kernel) ?_
                    refine th_iload_n C dc_H_init_58 rfl rfl ?_
                    refine th_new (mu := hm_26) (t := 16) (i := 2) (n := 74) C dc_H_init_59 cl_16 (tb 200 (by decide +kernel) rfl) (tb 202 (by decide +kernel) rfl) (tb 52 (by decide +kernel) rfl) (by decide +kernel) (by decide +kernel) (by decide) (by decide +kernel) (th_hz hc_26 (by decide +kernel) hd_16) (by decide) (by decide) ?_
                    change th_G l z _ _ _ _ hm_27 _ _
                    refine th_dup C dc_H_init_62 ?_
                    refine tk_callN (m1 := hm_28) C (k_M l hl hm_27 2 75 (by decide) hc_27 (by decide +kernel) (by decide +kernel) (by decide +kernel) (by decide +kernel) (by decide +kernel)) okN_H_24 rfl (Nat.le_of_ble_eq_true rfl) dc_H_init_63 rfl ?_
                    refine th_aast (mu := hm_28) (n := 2) (ci := 0) (r := (rn_M, tf_M, 3)) C dc_H_init_66 rfl (fun _ => rfl) rfl rfl (by decide +kernel) (by decide +kernel) (th_ixN th_l_2 (by decide) (by decide +kernel)) ?_
                    change th_G l z _ _ _ _ hm_29 _ _
                    refine th_iinc (v := 3) (lv' := [(0, .inr (some (0, 0))), (1, .inl ((3 : Int32)))]) C dc_H_init_67 rfl (by decide) (by decide) rfl ?_
                    refine th_goto (tgt := 49) C dc_H_init_70 (by decide) ?_
                    refine th_iload_n C dc_H_init_49 rfl rfl ?_
                    refine th_iconst (v := 3) C dc_H_init_50 th_c_3 ?_
                    refine tq_icmp_ge (tgt := 73) C dc_H_init_51 (by decide) th_l_3 th_l_3 (fun c => ?_) (fun c => ?_)
                    · refine th_aload_n C dc_H_init_73 rfl rfl ?_
                      refine th_iconst (v := 3) C dc_H_init_74 th_c_3 ?_
                      refine th_anew (mu := hm_29) (t := 3) (i := 0) (N := 3) (n := 77) C dc_H_init_75 rfl (fun _ => rfl) (tb 222 (by decide +kernel) rfl) (by decide) (by decide) (by decide) (by decide) (by decide +kernel) (by decide +kernel) (by decide) (by decide +kernel) (by rw [hc_29.1]; rfl) (fun k => (hc_29.2 3 0 k (by decide +kernel)).2) (by decide) (by decide) ?_
                      change th_G l z _ _ _ _ hm_30 _ _
                      refine th_putR (mu := hm_30) C dc_H_init_78 cl_0 fd_H_27 (by decide +kernel) rfl rfl hN rfl rfl (fun _ => rfl) (fun _ => rfl) ?_
                      change th_G l z _ _ _ _ hm_31 _ _
                      refine th_iconst (v := 0) C dc_H_init_81 th_c_0 ?_
                      refine th_istore_n (lv' := [(0, .inr (some (0, 0))), (1, .inl ((0 : Int32)))]) C dc_H_init_82 rfl (by decide) rfl ?_
                      refine th_iload_n C dc_H_init_83 rfl rfl ?_
                      refine th_iconst (v := 3) C dc_H_init_84 th_c_3 ?_
                      refine tq_icmp_ge (tgt := 107) C dc_H_init_85 (by decide) th_l_0 th_l_3 (fun c => ?_) (fun c => ?_)
                      · exact absurd c (by decide)
                      · refine th_aload_n C dc_H_init_88 rfl rfl ?_
                        refine th_getR (mu := hm_31) (v := some (3, 0)) C dc_H_init_89 (by decide +kernel) cl_0.1 cl_0.2.1 cl_0.2.2.1 fd_H_27.1 rfl fd_H_27.2 (by decide +kernel) ?_
                        refine th_iload_n C dc_H_init_92 rfl rfl ?_
                        refine th_new (mu := hm_31) (t := 14) (i := 8) (n := 78) C dc_H_init_93 cl_14 (tb 222 (by decide +kernel) rfl) (tb 120 (by decide +kernel) rfl) (tb 51 (by decide +kernel) rfl) (by decide +kernel) (by decide +kernel) (by decide) (by decide +kernel) (th_hz hc_31 (by decide +kernel) hd_14) (by decide) (by decide) ?_
                        change th_G l z _ _ _ _ hm_32 _ _
                        refine th_dup C dc_H_init_96 ?_
                        refine tk_callN (m1 := hm_33) C (k_R l hl hm_32 8 79 hc_32 (by decide +kernel) (by decide +kernel) (by decide +kernel) (by decide +kernel)) okN_H_31 rfl (Nat.le_of_ble_eq_true rfl) dc_H_init_97 rfl ?_
                        refine th_aast (mu := hm_33) (n := 0) (ci := 3) (r := (rn_R, tf_R, 2)) C dc_H_init_100 rfl (fun _ => rfl) rfl rfl (by decide +kernel) (by decide +kernel) (th_ixN th_l_0 (by decide) (by decide +kernel)) ?_
                        change th_G l z _ _ _ _ hm_34 _ _
                        refine th_iinc (v := 1) (lv' := [(0, .inr (some (0, 0))), (1, .inl ((1 : Int32)))]) C dc_H_init_101 rfl (by decide) (by decide) rfl ?_
                        refine th_goto (tgt := 83) C dc_H_init_104 (by decide) ?_
                        refine th_iload_n C dc_H_init_83 rfl rfl ?_
                        refine th_iconst (v := 3) C dc_H_init_84 th_c_3 ?_
                        refine tq_icmp_ge (tgt := 107) C dc_H_init_85 (by decide) th_l_1 th_l_3 (fun c => ?_) (fun c => ?_)
                        · exact absurd c (by decide)
                        · refine th_aload_n C dc_H_init_88 rfl rfl ?_
                          refine th_getR (mu := hm_34) (v := some (3, 0)) C dc_H_init_89 (by decide +kernel) cl_0.1 cl_0.2.1 cl_0.2.2.1 fd_H_27.1 rfl fd_H_27.2 (by decide +kernel) ?_
                          refine th_iload_n C dc_H_init_92 rfl rfl ?_
                          refine th_new (mu := hm_34) (t := 14) (i := 9) (n := 80) C dc_H_init_93 cl_14 (tb 222 (by decide +kernel) rfl) (tb 120 (by decide +kernel) rfl) (tb 51 (by decide +kernel) rfl) (by decide +kernel) (by decide +kernel) (by decide) (by decide +kernel) (th_hz hc_34 (by decide +kernel) hd_14) (by decide) (by decide) ?_
                          change th_G l z _ _ _ _ hm_35 _ _
                          refine th_dup C dc_H_init_96 ?_
                          refine tk_callN (m1 := hm_36) C (k_R l hl hm_35 9 81 hc_35 (by decide +kernel) (by decide +kernel) (by decide +kernel) (by decide +kernel)) okN_H_31 rfl (Nat.le_of_ble_eq_true rfl) dc_H_init_97 rfl ?_
                          refine th_aast (mu := hm_36) (n := 1) (ci := 3) (r := (rn_R, tf_R, 2)) C dc_H_init_100 rfl (fun _ => rfl) rfl rfl (by decide +kernel) (by decide +kernel) (th_ixN th_l_1 (by decide) (by decide +kernel)) ?_
                          change th_G l z _ _ _ _ hm_37 _ _
                          refine th_iinc (v := 2) (lv' := [(0, .inr (some (0, 0))), (1, .inl ((2 : Int32)))]) C dc_H_init_101 rfl (by decide) (by decide) rfl ?_
                          refine th_goto (tgt := 83) C dc_H_init_104 (by decide) ?_
                          refine th_iload_n C dc_H_init_83 rfl rfl ?_
                          refine th_iconst (v := 3) C dc_H_init_84 th_c_3 ?_
                          refine tq_icmp_ge (tgt := 107) C dc_H_init_85 (by decide) th_l_2 th_l_3 (fun c => ?_) (fun c => ?_)
                          · exact absurd c (by decide)
                          · refine th_aload_n C dc_H_init_88 rfl rfl ?_
                            refine th_getR (mu := hm_37) (v := some (3, 0)) C dc_H_init_89 (by decide +kernel) cl_0.1 cl_0.2.1 cl_0.2.2.1 fd_H_27.1 rfl fd_H_27.2 (by decide +kernel) ?_
                            refine th_iload_n C dc_H_init_92 rfl rfl ?_
                            refine th_new (mu := hm_37) (t := 14) (i := 10) (n := 82) C dc_H_init_93 cl_14 (tb 222 (by decide +kernel) rfl) (tb 120 (by decide +kernel) rfl) (tb 51 (by decide +kernel) rfl) (by decide +kernel) (by decide +kernel) (by decide) (by decide +kernel) (th_hz hc_37 (by decide +kernel) hd_14) (by decide) (by decide) ?_
                            change th_G l z _ _ _ _ hm_38 _ _
                            refine th_dup C dc_H_init_96 ?_
                            refine tk_callN (m1 := hm_39) C (k_R l hl hm_38 10 83 hc_38 (by decide +kernel) (by decide +kernel) (by decide +kernel) (by decide +kernel)) okN_H_31 rfl (Nat.le_of_ble_eq_true rfl) dc_H_init_97 rfl ?_
                            refine th_aast (mu := hm_39) (n := 2) (ci := 3) (r := (rn_R, tf_R, 2)) C dc_H_init_100 rfl (fun _ => rfl) rfl rfl (by decide +kernel) (by decide +kernel) (th_ixN th_l_2 (by decide) (by decide +kernel)) ?_
                            change th_G l z _ _ _ _ hm_40 _ _
                            refine th_iinc (v := 3) (lv' := [(0, .inr (some (0, 0))), (1, .inl ((3 : Int32)))]) C dc_H_init_101 rfl (by decide) (by decide) rfl ?_
                            refine th_goto (tgt := 83) C dc_H_init_104 (by decide) ?_
                            refine th_iload_n C dc_H_init_83 rfl rfl ?_
                            refine th_iconst (v := 3) C dc_H_init_84 th_c_3 ?_
                            refine tq_icmp_ge (tgt := 107) C dc_H_init_85 (by decide) th_l_3 th_l_3 (fun c => ?_) (fun c => ?_)
                            · refine th_aload_n C dc_H_init_107 rfl rfl ?_
                              refine th_iconst (v := 4) C dc_H_init_108 th_c_4 ?_
                              refine th_newa (mu := hm_40) (t := 4) (i := 0) (N := 4) (n := 84) C dc_H_init_109 (Or.inl ⟨rfl, rfl⟩) rfl (fun _ => rfl) ac_int (by decide) (by decide) (by decide) (by decide +kernel) (by decide +kernel) (by decide) (by decide +kernel) (by rw [hc_40.1]; rfl) (fun k => (hc_40.2 4 0 k (by decide +kernel)).1) (by decide) (by decide) ?_
                              change th_G l z _ _ _ _ hm_41 _ _
                              refine th_putR (mu := hm_41) C dc_H_init_111 cl_0 fd_H_32 (by decide +kernel) rfl rfl hN rfl rfl (fun _ => rfl) (fun _ => rfl) ?_
                              change th_G l z _ _ _ _ hm_42 _ _
                              refine th_aload_n C dc_H_init_114 rfl rfl ?_
                              refine th_bipush (v := 40) C dc_H_init_115 th_b_40 ?_
                              refine th_newa (mu := hm_42) (t := 5) (i := 0) (N := 40) (n := 85) C dc_H_init_117 (Or.inl ⟨rfl, rfl⟩) rfl (fun _ => rfl) ac_int (by decide) (by decide) (by decide) (by decide +kernel) (by decide +kernel) (by decide) (by decide +kernel) (by rw [hc_42.1]; rfl) (fun k => (hc_42.2 5 0 k (by decide +kernel)).1) (by decide) (by decide) ?_
                              change th_G l z _ _ _ _ hm_43 _ _
                              refine th_putR (mu := hm_43) C dc_H_init_119 cl_0 fd_H_36 (by decide +kernel) rfl rfl hN rfl rfl (fun _ => rfl) (fun _ => rfl) ?_
                              change th_G l z _ _ _ _ hm_44 _ _
                              refine th_aload_n C dc_H_init_122 rfl rfl ?_
                              refine th_iconst (v := 4) C dc_H_init_123 th_c_4 ?_
                              refine tk_putI (mu := hm_44) C dc_H_init_124 cl_0 fd_H_39 (by decide +kernel) rfl rfl rfl ?_
                              change th_G l z _ _ _ _ hm_45 _ _
                              refine th_aload_n C dc_H_init_127 rfl rfl ?_
                              refine th_iconst (v := -1) C dc_H_init_128 th_c_m1 ?_
                              refine tk_putI (mu := hm_45) C dc_H_init_129 cl_0 fd_H_43 (by decide +kernel) rfl rfl rfl ?_
                              change th_G l z _ _ _ _ hm_46 _ _
                              exact th_vret C hQ dc_H_init_132 (by decide) (by decide) ⟨rfl, rfl⟩
                            · exact absurd c (by decide)
                    · exact absurd c (by decide)
            · exact absurd c (by decide)
end
section
set_option maxRecDepth 100000 in
set_option maxHeartbeats 4000000 in
theorem k_O (l : Launch) (hl : l.stackTraces = false) : th_F l yn_O_init cb_O_init 2 none { frames := 1, cells := 33, slots := 719, locals := 13 } [.inr (some (20, 0))] hm_47 (th_fin hm_123) := by
  refine th_of hl (by decide +kernel) (Nat.le_of_ble_eq_true rfl) (fun z C hQ hN => ?_)
  refine th_aload_n C dc_O_init_0 rfl rfl ?_
  refine th_objInit C dc_O_init_1 (tb 627 (by decide +kernel) rfl) oi_1 oi_2 (by decide) (Nat.le_of_ble_eq_true rfl) ?_
  refine th_aload_n C dc_O_init_4 rfl rfl ?_
  refine th_bipush (v := 120) C dc_O_init_5 th_b_120 ?_
  refine th_newa (mu := hm_47) (t := 21) (i := 0) (N := 120) (n := 87) C dc_O_init_7 (Or.inl ⟨rfl, rfl⟩) rfl (fun _ => rfl) ac_int (by decide) (by decide) (by decide) (by decide +kernel) (by decide +kernel) (by decide) (by decide +kernel) (by rw [hc_47.1]; rfl) (fun k => (hc_47.2 21 0 k (by decide +kernel)).1) (by decide) (by decide) ?_
  change th_G l z _ _ _ _ hm_48 _ _
  refine th_putR (mu := hm_48) C dc_O_init_9 cl_20 fd_O_7 (by decide +kernel) rfl rfl hN rfl rfl (fun _ => rfl) (fun _ => rfl) ?_
  change th_G l z _ _ _ _ hm_49 _ _
  refine th_aload_n C dc_O_init_12 rfl rfl ?_
  refine th_bipush (v := 120) C dc_O_init_13 th_b_120 ?_
  refine th_newa (mu := hm_49) (t := 22) (i := 0) (N := 120) (n := 88) C dc_O_init_15 (Or.inl ⟨rfl, rfl⟩) rfl (fun _ => rfl) ac_int (by decide) (by decide) (by decide) (by decide +kernel) (by decide +kernel) (by decide) (by decide +kernel) (by rw [hc_49.1]; rfl) (fun k => (hc_49.2 22 0 k (by decide +kernel)).1) (by decide) (by decide) ?_
  change th_G l z _ _ _ _ hm_50 _ _
  refine th_putR (mu := hm_50) C dc_O_init_17 cl_20 fd_O_13 (by decide +kernel) rfl rfl hN rfl rfl (fun _ => rfl) (fun _ => rfl) ?_
  change th_G l z _ _ _ _ hm_51 _ _
  refine th_aload_n C dc_O_init_20 rfl rfl ?_
  refine th_bipush (v := 120) C dc_O_init_21 th_b_120 ?_
  refine th_newa (mu := hm_51) (t := 23) (i := 0) (N := 120) (n := 89) C dc_O_init_23 (Or.inl ⟨rfl, rfl⟩) rfl (fun _ => rfl) ac_int (by decide) (by decide) (by decide) (by decide +kernel) (by decide +kernel) (by decide) (by decide +kernel) (by rw [hc_51.1]; rfl) (fun k => (hc_51.2 23 0 k (by decide +kernel)).1) (by decide) (by decide) ?_
  change th_G l z _ _ _ _ hm_52 _ _
  refine th_putR (mu := hm_52) C dc_O_init_25 cl_20 fd_O_16 (by decide +kernel) rfl rfl hN rfl rfl (fun _ => rfl) (fun _ => rfl) ?_
  change th_G l z _ _ _ _ hm_53 _ _
  refine th_aload_n C dc_O_init_28 rfl rfl ?_
  refine th_iconst (v := 5) C dc_O_init_29 th_c_5 ?_
  refine th_newa (mu := hm_53) (t := 24) (i := 0) (N := 5) (n := 90) C dc_O_init_30 (Or.inl ⟨rfl, rfl⟩) rfl (fun _ => rfl) ac_int (by decide) (by decide) (by decide) (by decide +kernel) (by decide +kernel) (by decide) (by decide +kernel) (by rw [hc_53.1]; rfl) (fun k => (hc_53.2 24 0 k (by decide +kernel)).1) (by decide) (by decide) ?_
  change th_G l z _ _ _ _ hm_54 _ _
  refine th_putR (mu := hm_54) C dc_O_init_32 cl_20 fd_O_19 (by decide +kernel) rfl rfl hN rfl rfl (fun _ => rfl) (fun _ => rfl) ?_
  change th_G l z _ _ _ _ hm_55 _ _
  refine th_aload_n C dc_O_init_35 rfl rfl ?_
  refine th_iconst (v := 4) C dc_O_init_36 th_c_4 ?_
  refine th_newa (mu := hm_55) (t := 25) (i := 0) (N := 4) (n := 91) C dc_O_init_37 (Or.inl ⟨rfl, rfl⟩) rfl (fun _ => rfl) ac_int (by decide) (by decide) (by decide) (by decide +kernel) (by decide +kernel) (by decide) (by decide +kernel) (by rw [hc_55.1]; rfl) (fun k => (hc_55.2 25 0 k (by decide +kernel)).1) (by decide) (by decide) ?_
  change th_G l z _ _ _ _ hm_56 _ _
  refine th_putR (mu := hm_56) C dc_O_init_39 cl_20 fd_O_22 (by decide +kernel) rfl rfl hN rfl rfl (fun _ => rfl) (fun _ => rfl) ?_
  change th_G l z _ _ _ _ hm_57 _ _
  refine th_aload_n C dc_O_init_42 rfl rfl ?_
  refine th_bipush (v := 60) C dc_O_init_43 th_b_60 ?_
  refine th_newa (mu := hm_57) (t := 26) (i := 0) (N := 60) (n := 92) C dc_O_init_45 (Or.inl ⟨rfl, rfl⟩) rfl (fun _ => rfl) ac_int (by decide) (by decide) (by decide) (by decide +kernel) (by decide +kernel) (by decide) (by decide +kernel) (by rw [hc_57.1]; rfl) (fun k => (hc_57.2 26 0 k (by decide +kernel)).1) (by decide) (by decide) ?_
  change th_G l z _ _ _ _ hm_58 _ _
  refine th_putR (mu := hm_58) C dc_O_init_47 cl_20 fd_O_25 (by decide +kernel) rfl rfl hN rfl rfl (fun _ => rfl) (fun _ => rfl) ?_
  change th_G l z _ _ _ _ hm_59 _ _
  refine th_aload_n C dc_O_init_50 rfl rfl ?_
  refine th_bipush (v := 60) C dc_O_init_51 th_b_60 ?_
  refine th_newa (mu := hm_59) (t := 27) (i := 0) (N := 60) (n := 93) C dc_O_init_53 (Or.inl ⟨rfl, rfl⟩) rfl (fun _ => rfl) ac_int (by decide) (by decide) (by decide) (by decide +kernel) (by decide +kernel) (by decide) (by decide +kernel) (by rw [hc_59.1]; rfl) (fun k => (hc_59.2 27 0 k (by decide +kernel)).1) (by decide) (by decide) ?_
  change th_G l z _ _ _ _ hm_60 _ _
  refine th_putR (mu := hm_60) C dc_O_init_55 cl_20 fd_O_28 (by decide +kernel) rfl rfl hN rfl rfl (fun _ => rfl) (fun _ => rfl) ?_
  change th_G l z _ _ _ _ hm_61 _ _
  refine th_aload_n C dc_O_init_58 rfl rfl ?_
  refine th_iconst (v := 5) C dc_O_init_59 th_c_5 ?_
  refine th_newa (mu := hm_61) (t := 28) (i := 0) (N := 5) (n := 94) C dc_O_init_60 (Or.inl ⟨rfl, rfl⟩) rfl (fun _ => rfl) ac_int (by decide) (by decide) (by decide) (by decide +kernel) (by decide +kernel) (by decide) (by decide +kernel) (by rw [hc_61.1]; rfl) (fun k => (hc_61.2 28 0 k (by decide +kernel)).1) (by decide) (by decide) ?_
  change th_G l z _ _ _ _ hm_62 _ _
  refine th_putR (mu := hm_62) C dc_O_init_62 cl_20 fd_O_31 (by decide +kernel) rfl rfl hN rfl rfl (fun _ => rfl) (fun _ => rfl) ?_
  change th_G l z _ _ _ _ hm_63 _ _
  refine th_aload_n C dc_O_init_65 rfl rfl ?_
  refine th_bipush (v := 20) C dc_O_init_66 th_b_20 ?_
  refine th_newa (mu := hm_63) (t := 29) (i := 0) (N := 20) (n := 95) C dc_O_init_68 (Or.inl ⟨rfl, rfl⟩) rfl (fun _ => rfl) ac_int (by decide) (by decide) (by decide) (by decide +kernel) (by decide +kernel) (by decide) (by decide +kernel) (by rw [hc_63.1]; rfl) (fun k => (hc_63.2 29 0 k (by decide +kernel)).1) (by decide) (by decide) ?_
  change th_G l z _ _ _ _ hm_64 _ _
  refine th_putR (mu := hm_64) C dc_O_init_70 cl_20 fd_O_34 (by decide +kernel) rfl rfl hN rfl rfl (fun _ => rfl) (fun _ => rfl) ?_
  change th_G l z _ _ _ _ hm_65 _ _
  refine th_aload_n C dc_O_init_73 rfl rfl ?_
  refine th_bipush (v := 20) C dc_O_init_74 th_b_20 ?_
  refine th_newa (mu := hm_65) (t := 30) (i := 0) (N := 20) (n := 96) C dc_O_init_76 (Or.inl ⟨rfl, rfl⟩) rfl (fun _ => rfl) ac_int (by decide) (by decide) (by decide) (by decide +kernel) (by decide +kernel) (by decide) (by decide +kernel) (by rw [hc_65.1]; rfl) (fun k => (hc_65.2 30 0 k (by decide +kernel)).1) (by decide) (by decide) ?_
  change th_G l z _ _ _ _ hm_66 _ _
  refine th_putR (mu := hm_66) C dc_O_init_78 cl_20 fd_O_37 (by decide +kernel) rfl rfl hN rfl rfl (fun _ => rfl) (fun _ => rfl) ?_
  change th_G l z _ _ _ _ hm_67 _ _
  refine th_aload_n C dc_O_init_81 rfl rfl ?_
  refine th_iconst (v := 5) C dc_O_init_82 th_c_5 ?_
  refine th_newa (mu := hm_67) (t := 31) (i := 0) (N := 5) (n := 97) C dc_O_init_83 (Or.inl ⟨rfl, rfl⟩) rfl (fun _ => rfl) ac_int (by decide) (by decide) (by decide) (by decide +kernel) (by decide +kernel) (by decide) (by decide +kernel) (by rw [hc_67.1]; rfl) (fun k => (hc_67.2 31 0 k (by decide +kernel)).1) (by decide) (by decide) ?_
  change th_G l z _ _ _ _ hm_68 _ _
  refine th_putR (mu := hm_68) C dc_O_init_85 cl_20 fd_O_40 (by decide +kernel) rfl rfl hN rfl rfl (fun _ => rfl) (fun _ => rfl) ?_
  change th_G l z _ _ _ _ hm_69 _ _
  refine th_aload_n C dc_O_init_88 rfl rfl ?_
  refine th_iconst (v := 5) C dc_O_init_89 th_c_5 ?_
  refine th_newa (mu := hm_69) (t := 32) (i := 0) (N := 5) (n := 98) C dc_O_init_90 (Or.inl ⟨rfl, rfl⟩) rfl (fun _ => rfl) ac_int (by decide) (by decide) (by decide) (by decide +kernel) (by decide +kernel) (by decide) (by decide +kernel) (by rw [hc_69.1]; rfl) (fun k => (hc_69.2 32 0 k (by decide +kernel)).1) (by decide) (by decide) ?_
  change th_G l z _ _ _ _ hm_70 _ _
  refine th_putR (mu := hm_70) C dc_O_init_92 cl_20 fd_O_43 (by decide +kernel) rfl rfl hN rfl rfl (fun _ => rfl) (fun _ => rfl) ?_
  change th_G l z _ _ _ _ hm_71 _ _
  refine th_aload_n C dc_O_init_95 rfl rfl ?_
  refine th_iconst (v := 5) C dc_O_init_96 th_c_5 ?_
  refine th_newa (mu := hm_71) (t := 33) (i := 0) (N := 5) (n := 99) C dc_O_init_97 (Or.inl ⟨rfl, rfl⟩) rfl (fun _ => rfl) ac_int (by decide) (by decide) (by decide) (by decide +kernel) (by decide +kernel) (by decide) (by decide +kernel) (by rw [hc_71.1]; rfl) (fun k => (hc_71.2 33 0 k (by decide +kernel)).1) (by decide) (by decide) ?_
  change th_G l z _ _ _ _ hm_72 _ _
  refine th_putR (mu := hm_72) C dc_O_init_99 cl_20 fd_O_46 (by decide +kernel) rfl rfl hN rfl rfl (fun _ => rfl) (fun _ => rfl) ?_
  change th_G l z _ _ _ _ hm_73 _ _
  refine th_aload_n C dc_O_init_102 rfl rfl ?_
  refine th_iconst (v := 5) C dc_O_init_103 th_c_5 ?_
  refine th_newa (mu := hm_73) (t := 34) (i := 0) (N := 5) (n := 100) C dc_O_init_104 (Or.inl ⟨rfl, rfl⟩) rfl (fun _ => rfl) ac_int (by decide) (by decide) (by decide) (by decide +kernel) (by decide +kernel) (by decide) (by decide +kernel) (by rw [hc_73.1]; rfl) (fun k => (hc_73.2 34 0 k (by decide +kernel)).1) (by decide) (by decide) ?_
  change th_G l z _ _ _ _ hm_74 _ _
  refine th_putR (mu := hm_74) C dc_O_init_106 cl_20 fd_O_49 (by decide +kernel) rfl rfl hN rfl rfl (fun _ => rfl) (fun _ => rfl) ?_
  change th_G l z _ _ _ _ hm_75 _ _
  refine th_aload_n C dc_O_init_109 rfl rfl ?_
  refine th_iconst (v := 5) C dc_O_init_110 th_c_5 ?_
  refine th_newa (mu := hm_75) (t := 35) (i := 0) (N := 5) (n := 101) C dc_O_init_111 (Or.inl ⟨rfl, rfl⟩) rfl (fun _ => rfl) ac_int (by decide) (by decide) (by decide) (by decide +kernel) (by decide +kernel) (by decide) (by decide +kernel) (by rw [hc_75.1]; rfl) (fun k => (hc_75.2 35 0 k (by decide +kernel)).1) (by decide) (by decide) ?_
  change th_G l z _ _ _ _ hm_76 _ _
  refine th_putR (mu := hm_76) C dc_O_init_113 cl_20 fd_O_52 (by decide +kernel) rfl rfl hN rfl rfl (fun _ => rfl) (fun _ => rfl) ?_
  change th_G l z _ _ _ _ hm_77 _ _
  refine th_aload_n C dc_O_init_116 rfl rfl ?_
  refine th_iconst (v := 5) C dc_O_init_117 th_c_5 ?_
  refine th_newa (mu := hm_77) (t := 36) (i := 0) (N := 5) (n := 102) C dc_O_init_118 (Or.inl ⟨rfl, rfl⟩) rfl (fun _ => rfl) ac_int (by decide) (by decide) (by decide) (by decide +kernel) (by decide +kernel) (by decide) (by decide +kernel) (by rw [hc_77.1]; rfl) (fun k => (hc_77.2 36 0 k (by decide +kernel)).1) (by decide) (by decide) ?_
  change th_G l z _ _ _ _ hm_78 _ _
  refine th_putR (mu := hm_78) C dc_O_init_120 cl_20 fd_O_55 (by decide +kernel) rfl rfl hN rfl rfl (fun _ => rfl) (fun _ => rfl) ?_
  change th_G l z _ _ _ _ hm_79 _ _
  refine th_aload_n C dc_O_init_123 rfl rfl ?_
  refine th_iconst (v := 5) C dc_O_init_124 th_c_5 ?_
  refine th_newa (mu := hm_79) (t := 37) (i := 0) (N := 5) (n := 103) C dc_O_init_125 (Or.inl ⟨rfl, rfl⟩) rfl (fun _ => rfl) ac_int (by decide) (by decide) (by decide) (by decide +kernel) (by decide +kernel) (by decide) (by decide +kernel) (by rw [hc_79.1]; rfl) (fun k => (hc_79.2 37 0 k (by decide +kernel)).1) (by decide) (by decide) ?_
  change th_G l z _ _ _ _ hm_80 _ _
  refine th_putR (mu := hm_80) C dc_O_init_127 cl_20 fd_O_58 (by decide +kernel) rfl rfl hN rfl rfl (fun _ => rfl) (fun _ => rfl) ?_
  change th_G l z _ _ _ _ hm_81 _ _
  refine th_aload_n C dc_O_init_130 rfl rfl ?_
  refine th_iconst (v := 5) C dc_O_init_131 th_c_5 ?_
  refine th_newa (mu := hm_81) (t := 38) (i := 0) (N := 5) (n := 104) C dc_O_init_132 (Or.inl ⟨rfl, rfl⟩) rfl (fun _ => rfl) ac_int (by decide) (by decide) (by decide) (by decide +kernel) (by decide +kernel) (by decide) (by decide +kernel) (by rw [hc_81.1]; rfl) (fun k => (hc_81.2 38 0 k (by decide +kernel)).1) (by decide) (by decide) ?_
  change th_G l z _ _ _ _ hm_82 _ _
  refine th_putR (mu := hm_82) C dc_O_init_134 cl_20 fd_O_61 (by decide +kernel) rfl rfl hN rfl rfl (fun _ => rfl) (fun _ => rfl) ?_
  change th_G l z _ _ _ _ hm_83 _ _
  refine th_aload_n C dc_O_init_137 rfl rfl ?_
  refine th_iconst (v := 5) C dc_O_init_138 th_c_5 ?_
  refine th_newa (mu := hm_83) (t := 39) (i := 0) (N := 5) (n := 105) C dc_O_init_139 (Or.inl ⟨rfl, rfl⟩) rfl (fun _ => rfl) ac_int (by decide) (by decide) (by decide) (by decide +kernel) (by decide +kernel) (by decide) (by decide +kernel) (by rw [hc_83.1]; rfl) (fun k => (hc_83.2 39 0 k (by decide +kernel)).1) (by decide) (by decide) ?_
  change th_G l z _ _ _ _ hm_84 _ _
  refine th_putR (mu := hm_84) C dc_O_init_141 cl_20 fd_O_64 (by decide +kernel) rfl rfl hN rfl rfl (fun _ => rfl) (fun _ => rfl) ?_
  change th_G l z _ _ _ _ hm_85 _ _
  refine th_aload_n C dc_O_init_144 rfl rfl ?_
  refine th_iconst (v := 5) C dc_O_init_145 th_c_5 ?_
  refine th_newa (mu := hm_85) (t := 40) (i := 0) (N := 5) (n := 106) C dc_O_init_146 (Or.inl ⟨rfl, rfl⟩) rfl (fun _ => rfl) ac_int (by decide) (by decide) (by decide) (by decide +kernel) (by decide +kernel) (by decide) (by decide +kernel) (by rw [hc_85.1]; rfl) (fun k => (hc_85.2 40 0 k (by decide +kernel)).1) (by decide) (by decide) ?_
  change th_G l z _ _ _ _ hm_86 _ _
  refine th_putR (mu := hm_86) C dc_O_init_148 cl_20 fd_O_67 (by decide +kernel) rfl rfl hN rfl rfl (fun _ => rfl) (fun _ => rfl) ?_
  change th_G l z _ _ _ _ hm_87 _ _
  refine th_aload_n C dc_O_init_151 rfl rfl ?_
  refine th_iconst (v := 5) C dc_O_init_152 th_c_5 ?_
  refine th_newa (mu := hm_87) (t := 41) (i := 0) (N := 5) (n := 107) C dc_O_init_153 (Or.inl ⟨rfl, rfl⟩) rfl (fun _ => rfl) ac_int (by decide) (by decide) (by decide) (by decide +kernel) (by decide +kernel) (by decide) (by decide +kernel) (by rw [hc_87.1]; rfl) (fun k => (hc_87.2 41 0 k (by decide +kernel)).1) (by decide) (by decide) ?_
  change th_G l z _ _ _ _ hm_88 _ _
  refine th_putR (mu := hm_88) C dc_O_init_155 cl_20 fd_O_70 (by decide +kernel) rfl rfl hN rfl rfl (fun _ => rfl) (fun _ => rfl) ?_
  change th_G l z _ _ _ _ hm_89 _ _
  refine th_aload_n C dc_O_init_158 rfl rfl ?_
  refine th_iconst (v := 5) C dc_O_init_159 th_c_5 ?_
  refine th_newa (mu := hm_89) (t := 42) (i := 0) (N := 5) (n := 108) C dc_O_init_160 (Or.inr ⟨rfl, rfl⟩) rfl (fun _ => rfl) ac_boolean (by decide) (by decide) (by decide) (by decide +kernel) (by decide +kernel) (by decide) (by decide +kernel) (by rw [hc_89.1]; rfl) (fun k => (hc_89.2 42 0 k (by decide +kernel)).1) (by decide) (by decide) ?_
  change th_G l z _ _ _ _ hm_90 _ _
  refine th_putR (mu := hm_90) C dc_O_init_162 cl_20 fd_O_73 (by decide +kernel) rfl rfl hN rfl rfl (fun _ => rfl) (fun _ => rfl) ?_
  change th_G l z _ _ _ _ hm_91 _ _
  refine th_aload_n C dc_O_init_165 rfl rfl ?_
  refine th_iconst (v := 5) C dc_O_init_166 th_c_5 ?_
  refine th_newa (mu := hm_91) (t := 43) (i := 0) (N := 5) (n := 109) C dc_O_init_167 (Or.inr ⟨rfl, rfl⟩) rfl (fun _ => rfl) ac_boolean (by decide) (by decide) (by decide) (by decide +kernel) (by decide +kernel) (by decide) (by decide +kernel) (by rw [hc_91.1]; rfl) (fun k => (hc_91.2 43 0 k (by decide +kernel)).1) (by decide) (by decide) ?_
  change th_G l z _ _ _ _ hm_92 _ _
  refine th_putR (mu := hm_92) C dc_O_init_169 cl_20 fd_O_77 (by decide +kernel) rfl rfl hN rfl rfl (fun _ => rfl) (fun _ => rfl) ?_
  change th_G l z _ _ _ _ hm_93 _ _
  refine th_aload_n C dc_O_init_172 rfl rfl ?_
  refine th_iconst (v := 3) C dc_O_init_173 th_c_3 ?_
  refine th_newa (mu := hm_93) (t := 44) (i := 0) (N := 3) (n := 110) C dc_O_init_174 (Or.inl ⟨rfl, rfl⟩) rfl (fun _ => rfl) ac_int (by decide) (by decide) (by decide) (by decide +kernel) (by decide +kernel) (by decide) (by decide +kernel) (by rw [hc_93.1]; rfl) (fun k => (hc_93.2 44 0 k (by decide +kernel)).1) (by decide) (by decide) ?_
  change th_G l z _ _ _ _ hm_94 _ _
  refine th_putR (mu := hm_94) C dc_O_init_176 cl_20 fd_O_80 (by decide +kernel) rfl rfl hN rfl rfl (fun _ => rfl) (fun _ => rfl) ?_
  change th_G l z _ _ _ _ hm_95 _ _
  refine th_aload_n C dc_O_init_179 rfl rfl ?_
  refine th_iconst (v := 3) C dc_O_init_180 th_c_3 ?_
  refine th_newa (mu := hm_95) (t := 45) (i := 0) (N := 3) (n := 111) C dc_O_init_181 (Or.inl ⟨rfl, rfl⟩) rfl (fun _ => rfl) ac_int (by decide) (by decide) (by decide) (by decide +kernel) (by decide +kernel) (by decide) (by decide +kernel) (by rw [hc_95.1]; rfl) (fun k => (hc_95.2 45 0 k (by decide +kernel)).1) (by decide) (by decide) ?_
  change th_G l z _ _ _ _ hm_96 _ _
  refine th_putR (mu := hm_96) C dc_O_init_183 cl_20 fd_O_83 (by decide +kernel) rfl rfl hN rfl rfl (fun _ => rfl) (fun _ => rfl) ?_
  change th_G l z _ _ _ _ hm_97 _ _
  refine th_aload_n C dc_O_init_186 rfl rfl ?_
  refine th_bipush (v := 15) C dc_O_init_187 th_b_15 ?_
  refine th_newa (mu := hm_97) (t := 46) (i := 0) (N := 15) (n := 112) C dc_O_init_189 (Or.inl ⟨rfl, rfl⟩) rfl (fun _ => rfl) ac_int (by decide) (by decide) (by decide) (by decide +kernel) (by decide +kernel) (by decide) (by decide +kernel) (by rw [hc_97.1]; rfl) (fun k => (hc_97.2 46 0 k (by decide +kernel)).1) (by decide) (by decide) ?_
  change th_G l z _ _ _ _ hm_98 _ _
  refine th_putR (mu := hm_98) C dc_O_init_191 cl_20 fd_O_86 (by decide +kernel) rfl rfl hN rfl rfl (fun _ => rfl) (fun _ => rfl) ?_
  change th_G l z _ _ _ _ hm_99 _ _
  refine th_aload_n C dc_O_init_194 rfl rfl ?_
  refine th_iconst (v := 3) C dc_O_init_195 th_c_3 ?_
  refine th_newa (mu := hm_99) (t := 47) (i := 0) (N := 3) (n := 113) C dc_O_init_196 (Or.inl ⟨rfl, rfl⟩) rfl (fun _ => rfl) ac_int (by decide) (by decide) (by decide) (by decide +kernel) (by decide +kernel) (by decide) (by decide +kernel) (by rw [hc_99.1]; rfl) (fun k => (hc_99.2 47 0 k (by decide +kernel)).1) (by decide) (by decide) ?_
  change th_G l z _ _ _ _ hm_100 _ _
  refine th_putR (mu := hm_100) C dc_O_init_198 cl_20 fd_O_89 (by decide +kernel) rfl rfl hN rfl rfl (fun _ => rfl) (fun _ => rfl) ?_
  change th_G l z _ _ _ _ hm_101 _ _
  refine th_aload_n C dc_O_init_201 rfl rfl ?_
  refine th_bipush (v := 15) C dc_O_init_202 th_b_15 ?_
  refine th_newa (mu := hm_101) (t := 48) (i := 0) (N := 15) (n := 114) C dc_O_init_204 (Or.inl ⟨rfl, rfl⟩) rfl (fun _ => rfl) ac_int (by decide) (by decide) (by decide) (by decide +kernel) (by decide +kernel) (by decide) (by decide +kernel) (by rw [hc_101.1]; rfl) (fun k => (hc_101.2 48 0 k (by decide +kernel)).1) (by decide) (by decide) ?_
  change th_G l z _ _ _ _ hm_102 _ _
  refine th_putR (mu := hm_102) C dc_O_init_206 cl_20 fd_O_92 (by decide +kernel) rfl rfl hN rfl rfl (fun _ => rfl) (fun _ => rfl) ?_
  change th_G l z _ _ _ _ hm_103 _ _
  refine th_aload_n C dc_O_init_209 rfl rfl ?_
  refine th_iconst (v := 3) C dc_O_init_210 th_c_3 ?_
  refine th_newa (mu := hm_103) (t := 49) (i := 0) (N := 3) (n := 115) C dc_O_init_211 (Or.inl ⟨rfl, rfl⟩) rfl (fun _ => rfl) ac_int (by decide) (by decide) (by decide) (by decide +kernel) (by decide +kernel) (by decide) (by decide +kernel) (by rw [hc_103.1]; rfl) (fun k => (hc_103.2 49 0 k (by decide +kernel)).1) (by decide) (by decide) ?_
  change th_G l z _ _ _ _ hm_104 _ _
  refine th_putR (mu := hm_104) C dc_O_init_213 cl_20 fd_O_95 (by decide +kernel) rfl rfl hN rfl rfl (fun _ => rfl) (fun _ => rfl) ?_
  change th_G l z _ _ _ _ hm_105 _ _
  refine th_aload_n C dc_O_init_216 rfl rfl ?_
  refine th_bipush (v := 25) C dc_O_init_217 th_b_25 ?_
  refine th_newa (mu := hm_105) (t := 50) (i := 0) (N := 25) (n := 116) C dc_O_init_219 (Or.inl ⟨rfl, rfl⟩) rfl (fun _ => rfl) ac_int (by decide) (by decide) (by decide) (by decide +kernel) (by decide +kernel) (by decide) (by decide +kernel) (by rw [hc_105.1]; rfl) (fun k => (hc_105.2 50 0 k (by decide +kernel)).1) (by decide) (by decide) ?_
  change th_G l z _ _ _ _ hm_106 _ _
  refine th_putR (mu := hm_106) C dc_O_init_221 cl_20 fd_O_98 (by decide +kernel) rfl rfl hN rfl rfl (fun _ => rfl) (fun _ => rfl) ?_
  change th_G l z _ _ _ _ hm_107 _ _
  refine th_aload_n C dc_O_init_224 rfl rfl ?_
  refine th_iconst (v := 5) C dc_O_init_225 th_c_5 ?_
  refine th_newa (mu := hm_107) (t := 51) (i := 0) (N := 5) (n := 117) C dc_O_init_226 (Or.inl ⟨rfl, rfl⟩) rfl (fun _ => rfl) ac_int (by decide) (by decide) (by decide) (by decide +kernel) (by decide +kernel) (by decide) (by decide +kernel) (by rw [hc_107.1]; rfl) (fun k => (hc_107.2 51 0 k (by decide +kernel)).1) (by decide) (by decide) ?_
  change th_G l z _ _ _ _ hm_108 _ _
  refine th_putR (mu := hm_108) C dc_O_init_228 cl_20 fd_O_101 (by decide +kernel) rfl rfl hN rfl rfl (fun _ => rfl) (fun _ => rfl) ?_
  change th_G l z _ _ _ _ hm_109 _ _
  refine th_aload_n C dc_O_init_231 rfl rfl ?_
  refine th_bipush (v := 40) C dc_O_init_232 th_b_40 ?_
  refine th_newa (mu := hm_109) (t := 52) (i := 0) (N := 40) (n := 118) C dc_O_init_234 (Or.inl ⟨rfl, rfl⟩) rfl (fun _ => rfl) ac_int (by decide) (by decide) (by decide) (by decide +kernel) (by decide +kernel) (by decide) (by decide +kernel) (by rw [hc_109.1]; rfl) (fun k => (hc_109.2 52 0 k (by decide +kernel)).1) (by decide) (by decide) ?_
  change th_G l z _ _ _ _ hm_110 _ _
  refine th_putR (mu := hm_110) C dc_O_init_236 cl_20 fd_O_104 (by decide +kernel) rfl rfl hN rfl rfl (fun _ => rfl) (fun _ => rfl) ?_
  change th_G l z _ _ _ _ hm_111 _ _
  refine th_aload_n C dc_O_init_239 rfl rfl ?_
  refine th_bipush (v := 8) C dc_O_init_240 th_b_8 ?_
  refine th_newa (mu := hm_111) (t := 53) (i := 0) (N := 8) (n := 119) C dc_O_init_242 (Or.inl ⟨rfl, rfl⟩) rfl (fun _ => rfl) ac_int (by decide) (by decide) (by decide) (by decide +kernel) (by decide +kernel) (by decide) (by decide +kernel) (by rw [hc_111.1]; rfl) (fun k => (hc_111.2 53 0 k (by decide +kernel)).1) (by decide) (by decide) ?_
  change th_G l z _ _ _ _ hm_112 _ _
  refine th_putR (mu := hm_112) C dc_O_init_244 cl_20 fd_O_107 (by decide +kernel) rfl rfl hN rfl rfl (fun _ => rfl) (fun _ => rfl) ?_
  change th_G l z _ _ _ _ hm_113 _ _
  refine th_aload_n C dc_O_init_247 rfl rfl ?_
  refine th_iconst (v := 4) C dc_O_init_248 th_c_4 ?_
  refine tk_putI (mu := hm_113) C dc_O_init_249 cl_20 fd_O_110 (by decide +kernel) rfl rfl rfl ?_
  change th_G l z _ _ _ _ hm_114 _ _
  refine th_iconst (v := 0) C dc_O_init_252 th_c_0 ?_
  refine th_istore_n (lv' := [(0, .inr (some (20, 0))), (1, .inl ((0 : Int32)))]) C dc_O_init_253 rfl (by decide) rfl ?_
  refine th_iload_n C dc_O_init_254 rfl rfl ?_
  refine th_iconst (v := 3) C dc_O_init_255 th_c_3 ?_
  refine tq_icmp_ge (tgt := 272) C dc_O_init_256 (by decide) th_l_0 th_l_3 (fun c => ?_) (fun c => ?_)
  · exact absurd c (by decide)
  · refine th_aload_n C dc_O_init_259 rfl rfl ?_
    refine th_getR (mu := hm_114) (v := some (44, 0)) C dc_O_init_260 (by decide +kernel) cl_20.1 cl_20.2.1 cl_20.2.2.1 fd_O_80.1 rfl fd_O_80.2 (by decide +kernel) ?_
    refine th_iload_n C dc_O_init_263 rfl rfl ?_
    refine th_iconst (v := -1) C dc_O_init_264 th_c_m1 ?_
    refine th_iast (mu := hm_114) (n := 0) C dc_O_init_265 (by decide +kernel) rfl (fun _ => rfl) (th_ixN th_l_0 (by decide) (by decide +kernel)) ?_
    change th_G l z _ _ _ _ hm_115 _ _
    refine th_iinc (v := 1) (lv' := [(0, .inr (some (20, 0))), (1, .inl ((1 : Int32)))]) C dc_O_init_266 rfl (by decide) (by decide) rfl ?_
    refine th_goto (tgt := 254) C dc_O_init_269 (by decide) ?_
    refine th_iload_n C dc_O_init_254 rfl rfl ?_
    refine th_iconst (v := 3) C dc_O_init_255 th_c_3 ?_
    refine tq_icmp_ge (tgt := 272) C dc_O_init_256 (by decide) th_l_1 th_l_3 (fun c => ?_) (fun c => ?_)
    · exact absurd c (by decide)
    · refine th_aload_n C dc_O_init_259 rfl rfl ?_
      refine th_getR (mu := hm_115) (v := some (44, 0)) C dc_O_init_260 (by decide +kernel) cl_20.1 cl_20.2.1 cl_20.2.2.1 fd_O_80.1 rfl fd_O_80.2 (by decide +kernel) ?_
      refine th_iload_n C dc_O_init_263 rfl rfl ?_
      refine th_iconst (v := -1) C dc_O_init_264 th_c_m1 ?_
      refine th_iast (mu := hm_115) (n := 1) C dc_O_init_265 (by decide +kernel) rfl (fun _ => rfl) (th_ixN th_l_1 (by decide) (by decide +kernel)) ?_
      change th_G l z _ _ _ _ hm_116 _ _
      refine th_iinc (v := 2) (lv' := [(0, .inr (some (20, 0))), (1, .inl ((2 : Int32)))]) C dc_O_init_266 rfl (by decide) (by decide) rfl ?_
      refine th_goto (tgt := 254) C dc_O_init_269 (by decide) ?_
      refine th_iload_n C dc_O_init_254 rfl rfl ?_
      refine th_iconst (v := 3) C dc_O_init_255 th_c_3 ?_
      refine tq_icmp_ge (tgt := 272) C dc_O_init_256 (by decide) th_l_2 th_l_3 (fun c => ?_) (fun c => ?_)
      · exact absurd c (by decide)
      · refine th_aload_n C dc_O_init_259 rfl rfl ?_
        refine th_getR (mu := hm_116) (v := some (44, 0)) C dc_O_init_260 (by decide +kernel) cl_20.1 cl_20.2.1 cl_20.2.2.1 fd_O_80.1 rfl fd_O_80.2 (by decide +kernel) ?_
        refine th_iload_n C dc_O_init_263 rfl rfl ?_
        refine th_iconst (v := -1) C dc_O_init_264 th_c_m1 ?_
        refine th_iast (mu := hm_116) (n := 2) C dc_O_init_265 (by decide +kernel) rfl (fun _ => rfl) (th_ixN th_l_2 (by decide) (by decide +kernel)) ?_
        change th_G l z _ _ _ _ hm_117 _ _
        refine th_iinc (v := 3) (lv' := [(0, .inr (some (20, 0))), (1, .inl ((3 : Int32)))]) C dc_O_init_266 rfl (by decide) (by decide) rfl ?_
        refine th_goto (tgt := 254) C dc_O_init_269 (by decide) ?_
        refine th_iload_n C dc_O_init_254 rfl rfl ?_
        refine th_iconst (v := 3) C dc_O_init_255 th_c_3 ?_
        refine tq_icmp_ge (tgt := 272) C dc_O_init_256 (by decide) th_l_3 th_l_3 (fun c => ?_) (fun c => ?_)
        · refine th_iconst (v := 0) C dc_O_init_272 th_c_0 ?_
          refine th_istore_n (lv' := [(0, .inr (some (20, 0))), (1, .inl ((0 : Int32)))]) C dc_O_init_273 rfl (by decide) rfl ?_
          refine th_iload_n C dc_O_init_274 rfl rfl ?_
          refine th_iconst (v := 5) C dc_O_init_275 th_c_5 ?_
          refine tq_icmp_ge (tgt := 293) C dc_O_init_276 (by decide) th_l_0 th_l_5 (fun c => ?_) (fun c => ?_)
          · exact absurd c (by decide)
          · refine th_aload_n C dc_O_init_279 rfl rfl ?_
            refine th_getR (mu := hm_117) (v := some (35, 0)) C dc_O_init_280 (by decide +kernel) cl_20.1 cl_20.2.1 cl_20.2.2.1 fd_O_52.1 rfl fd_O_52.2 (by decide +kernel) ?_
            refine th_iload_n C dc_O_init_283 rfl rfl ?_
            refine th_bipush (v := 24) C dc_O_init_284 th_b_24 ?_
            refine th_iast (mu := hm_117) (n := 0) C dc_O_init_286 (by decide +kernel) rfl (fun _ => rfl) (th_ixN th_l_0 (by decide) (by decide +kernel)) ?_
            change th_G l z _ _ _ _ hm_118 _ _
            refine th_iinc (v := 1) (lv' := [(0, .inr (some (20, 0))), (1, .inl ((1 : Int32)))]) C dc_O_init_287 rfl (by decide) (by decide) rfl ?_
            refine th_goto (tgt := 274) C dc_O_init_290 (by decide) ?_
            refine th_iload_n C dc_O_init_274 rfl rfl ?_
            refine th_iconst (v := 5) C dc_O_init_275 th_c_5 ?_
            refine tq_icmp_ge (tgt := 293) C dc_O_init_276 (by decide) th_l_1 th_l_5 (fun c => ?_) (fun c => ?_)
            · exact absurd c (by decide)
            · refine th_aload_n C dc_O_init_279 rfl rfl ?_
              refine th_getR (mu := hm_118) (v := some (35, 0)) C dc_O_init_280 (by decide +kernel) cl_20.1 cl_20.2.1 cl_20.2.2.1 fd_O_52.1 rfl fd_O_52.2 (by decide +kernel) ?_
              refine th_iload_n C dc_O_init_283 rfl rfl ?_
              refine th_bipush (v := 24) C dc_O_init_284 th_b_24 ?_
              refine th_iast (mu := hm_118) (n := 1) C dc_O_init_286 (by decide +kernel) rfl (fun _ => rfl) (th_ixN th_l_1 (by decide) (by decide +kernel)) ?_
              change th_G l z _ _ _ _ hm_119 _ _
              refine th_iinc (v := 2) (lv' := [(0, .inr (some (20, 0))), (1, .inl ((2 : Int32)))]) C dc_O_init_287 rfl (by decide) (by decide) rfl ?_
              refine th_goto (tgt := 274) C dc_O_init_290 (by decide) ?_
              refine th_iload_n C dc_O_init_274 rfl rfl ?_
              refine th_iconst (v := 5) C dc_O_init_275 th_c_5 ?_
              refine tq_icmp_ge (tgt := 293) C dc_O_init_276 (by decide) th_l_2 th_l_5 (fun c => ?_) (fun c => ?_)
              · exact absurd c (by decide)
              · refine th_aload_n C dc_O_init_279 rfl rfl ?_
                refine th_getR (mu := hm_119) (v := some (35, 0)) C dc_O_init_280 (by decide +kernel) cl_20.1 cl_20.2.1 cl_20.2.2.1 fd_O_52.1 rfl fd_O_52.2 (by decide +kernel) ?_
                refine th_iload_n C dc_O_init_283 rfl rfl ?_
                refine th_bipush (v := 24) C dc_O_init_284 th_b_24 ?_
                refine th_iast (mu := hm_119) (n := 2) C dc_O_init_286 (by decide +kernel) rfl (fun _ => rfl) (th_ixN th_l_2 (by decide) (by decide +kernel)) ?_
                change th_G l z _ _ _ _ hm_120 _ _
                refine th_iinc (v := 3) (lv' := [(0, .inr (some (20, 0))), (1, .inl ((3 : Int32)))]) C dc_O_init_287 rfl (by decide) (by decide) rfl ?_
                refine th_goto (tgt := 274) C dc_O_init_290 (by decide) ?_
                refine th_iload_n C dc_O_init_274 rfl rfl ?_
                refine th_iconst (v := 5) C dc_O_init_275 th_c_5 ?_
                refine tq_icmp_ge (tgt := 293) C dc_O_init_276 (by decide) th_l_3 th_l_5 (fun c => ?_) (fun c => ?_)
                · exact absurd c (by decide)
                · refine th_aload_n C dc_O_init_279 rfl rfl ?_
                  refine th_getR (mu := hm_120) (v := some (35, 0)) C dc_O_init_280 (by decide +kernel) cl_20.1 cl_20.2.1 cl_20.2.2.1 fd_O_52.1 rfl fd_O_52.2 (by decide +kernel) ?_
                  refine th_iload_n C dc_O_init_283 rfl rfl ?_
                  refine th_bipush (v := 24) C dc_O_init_284 th_b_24 ?_
                  refine th_iast (mu := hm_120) (n := 3) C dc_O_init_286 (by decide +kernel) rfl (fun _ => rfl) (th_ixN th_l_3 (by decide) (by decide +kernel)) ?_
                  change th_G l z _ _ _ _ hm_121 _ _
                  refine th_iinc (v := 4) (lv' := [(0, .inr (some (20, 0))), (1, .inl ((4 : Int32)))]) C dc_O_init_287 rfl (by decide) (by decide) rfl ?_
                  refine th_goto (tgt := 274) C dc_O_init_290 (by decide) ?_
                  refine th_iload_n C dc_O_init_274 rfl rfl ?_
                  refine th_iconst (v := 5) C dc_O_init_275 th_c_5 ?_
                  refine tq_icmp_ge (tgt := 293) C dc_O_init_276 (by decide) th_l_4 th_l_5 (fun c => ?_) (fun c => ?_)
                  · exact absurd c (by decide)
                  · refine th_aload_n C dc_O_init_279 rfl rfl ?_
                    refine th_getR (mu := hm_121) (v := some (35, 0)) C dc_O_init_280 (by decide +kernel) cl_20.1 cl_20.2.1 cl_20.2.2.1 fd_O_52.1 rfl fd_O_52.2 (by decide +kernel) ?_
                    refine th_iload_n C dc_O_init_283 rfl rfl ?_
                    refine th_bipush (v := 24) C dc_O_init_284 th_b_24 ?_
                    refine th_iast (mu := hm_121) (n := 4) C dc_O_init_286 (by decide +kernel) rfl (fun _ => rfl) (th_ixN th_l_4 (by decide) (by decide +kernel)) ?_
                    change th_G l z _ _ _ _ hm_122 _ _
                    refine th_iinc (v := 5) (lv' := [(0, .inr (some (20, 0))), (1, .inl ((5 : Int32)))]) C dc_O_init_287 rfl (by decide) (by decide) rfl ?_
                    refine th_goto (tgt := 274) C dc_O_init_290 (by decide) ?_
                    refine th_iload_n C dc_O_init_274 rfl rfl ?_
                    refine th_iconst (v := 5) C dc_O_init_275 th_c_5 ?_
                    refine tq_icmp_ge (tgt := 293) C dc_O_init_276 (by decide) th_l_5 th_l_5 (fun c => ?_) (fun c => ?_)
                    · refine th_aload_n C dc_O_init_293 rfl rfl ?_
                      refine th_getR (mu := hm_122) (v := some (53, 0)) C dc_O_init_294 (by decide +kernel) cl_20.1 cl_20.2.1 cl_20.2.2.1 fd_O_107.1 rfl fd_O_107.2 (by decide +kernel) ?_
                      refine th_bipush (v := 6) C dc_O_init_297 th_b_6 ?_
                      refine th_iconst (v := -1) C dc_O_init_299 th_c_m1 ?_
                      refine th_iast (mu := hm_122) (n := 6) C dc_O_init_300 (by decide +kernel) rfl (fun _ => rfl) (th_ixN th_l_6 (by decide) (by decide +kernel)) ?_
                      change th_G l z _ _ _ _ hm_123 _ _
                      exact th_vret C hQ dc_O_init_301 (by decide) (by decide) ⟨rfl, rfl⟩
                    · exact absurd c (by decide)
        · exact absurd c (by decide)
end
section
theorem th_arrV {c : ClassId} {N : Nat} {f g : Nat → Value} (h : ∀ k, k < N → f k = g k) : arrV c N f = arrV c N g := by
  unfold arrV
  congr 1
  congr 1
  funext j
  exact h j.val j.isLt
def th_sl (t i : Nat) : Nat := match th_kd t with
  | (0, ci) => ((th_Cl[ci]?).map (fun r => r.2.2)).getD 0
  | _ => th_L0 t i
def th_eqv (mu mu' : th_M) (t i k : Nat) : Bool := if th_fr t k = true ∨ (th_kd t).1 = 2 then decide (mu'.2.2.1 t i k = mu.2.2.1 t i k) else decide (mu'.2.1 t i k = mu.2.1 t i k)
theorem th_fr_obj {t k : Nat} (h : th_fr t k = true) : (th_kd t).1 = 0 := by
  unfold th_fr at h
  split at h <;> first | rfl | (exact absurd h Bool.false_ne_true)
theorem th_fr_arr {t k a j : Nat} (hk : th_kd t = (a, j)) (ha : a ≠ 0) : th_fr t k = false := by
  cases h : th_fr t k
  · rfl
  · have := th_fr_obj h
    rw [hk] at this
    exact absurd this ha
theorem th_ck_ext {D : va_G} {cA : Nat → ClassId} {al : th_A} {mu mu' : th_M} {t i : Nat} {H : Heap} (h : th_ck D cA al mu t i H) (hL : mu.2.2.2.1 t i = th_L0 t i) (hL' : mu'.2.2.2.1 t i = th_L0 t i) (he : ∀ k, k < th_sl t i → th_eqv mu mu' t i k = true) : th_ck D cA al mu' t i H := by
  unfold th_ck at h ⊢
  unfold th_sl at he
  unfold th_eqv at he
  rcases hk : th_kd t with ⟨a, j⟩
  rw [hk] at h
  simp only [hk] at he
  rcases a with _ | _ | _ | a
  · obtain ⟨r, h1, h2⟩ := h
    refine ⟨r, h1, h2.to fun k hkN => ?_⟩
    have q := he k (by show k < ((th_Cl[j]?).map (fun r => r.2.2)).getD 0; rw [h1]; exact hkN)
    unfold th_fv
    by_cases f : th_fr t k = true
    · rw [if_pos (Or.inl f)] at q
      rw [if_pos f, if_pos f, of_decide_eq_true q]
    · rw [if_neg (by rintro (g | g); exact f g; exact absurd g (by decide))] at q
      rw [if_neg f, if_neg f, of_decide_eq_true q]
  · show H[al t i]? = _
    have h : H[al t i]? = _ := h
    rw [hL'] 
    rw [hL] at h
    rw [h]
    congr 1
    refine th_arrV fun k hkN => ?_
    have q := he k hkN
    by_cases f : th_fr t k = true
    · exfalso
      exact absurd f (by rw [th_fr_arr hk (by omega)]; decide)
    · rw [if_neg (by rintro (g | g); exact f g; exact absurd g (by show ¬ (0 + 1 = 2); decide))] at q
      rw [of_decide_eq_true q]
  · show H[al t i]? = _
    have h : H[al t i]? = _ := h
    rw [hL']
    rw [hL] at h
    rw [h]
    congr 1
    refine th_arrV fun k hkN => ?_
    have q := he k hkN
    rw [if_pos (Or.inr rfl)] at q
    rw [of_decide_eq_true q]
  · show H[al t i]? = _
    have h : H[al t i]? = _ := h
    rw [hL']
    rw [hL] at h
    rw [h]
    congr 1
    refine th_arrV fun k hkN => ?_
    have q := he k hkN
    by_cases f : th_fr t k = true
    · exfalso
      exact absurd f (by rw [th_fr_arr hk (by omega)]; decide)
    · rw [if_neg (by rintro (g | g); exact f g; exact absurd g (by show ¬ (a + 1 + 1 + 1 = 2); omega))] at q
      rw [of_decide_eq_true q]
theorem th_W_conv {D : va_G} {cA : Nat → ClassId} {base : Nat} {al : th_A} {mu mu' : th_M} {H : Heap} (h : th_W D cA base al mu H) (hc : ∀ t, mu'.1 t ≤ mu.1 t) (hL : mu.2.2.2.1 = th_L0) (hL' : mu'.2.2.2.1 = th_L0) (he : ∀ t i k, i < mu'.1 t → k < th_sl t i → th_eqv mu mu' t i k = true) (hz : mu'.2.2.2.2 = 0) : th_W D cA base al mu' H := by
  obtain ⟨a, b, d, f⟩ := h
  exact ⟨fun t i q => th_ck_ext (a t i (Nat.lt_of_lt_of_le q (hc t))) (by rw [hL]) (by rw [hL']) (fun k => he t i k q), fun t1 i1 t2 i2 q1 q2 => b t1 i1 t2 i2 (Nat.lt_of_lt_of_le q1 (hc t1)) (Nat.lt_of_lt_of_le q2 (hc t2)), fun t i q => d t i (Nat.lt_of_lt_of_le q (hc t)), Or.inl hz⟩
theorem th_cn_big (t : Nat) (h : 54 ≤ t) : th_cn t = 0 := by
  unfold th_cn
  split <;> first | omega | (rw [if_neg (by omega)])
def hm_end : th_M := th_mk hm_123 17 0
theorem hm_end_c : ∀ t, t < 54 → th_cn t ≤ hm_end.1 t := by decide +kernel
set_option maxRecDepth 100000 in
theorem hm_end_e : ∀ t, t < 54 → ∀ i, i < th_cn t → ∀ k, k < th_sl t i → th_eqv hm_end (th_m th_I0) t i k = true := by decide +kernel
theorem th_conv {l : Launch} {z : th_Z} {nL pc kc ks : Nat} {lv : List (Nat × th_V)} {st : List th_V} (k : th_G l z nL pc lv st (th_m th_I0) kc ks) : th_G l z nL pc lv st hm_end kc ks := by
  obtain ⟨p, e, R, s, m, args, below, meth, c, Q, D, cA, base, al⟩ := z
  intro H locs ls hw hS hl
  refine k H locs ls (th_W_conv hw (fun t => ?_) rfl rfl (fun t i k hi hk => ?_) rfl) hS hl
  · by_cases h : t < 54
    · exact hm_end_c t h
    · rw [show (th_m th_I0).1 t = 0 from th_cn_big t (by omega)]
      exact Nat.zero_le _
  · by_cases h : t < 54
    · exact hm_end_e t h i hi k hk
    · have hi : i < th_cn t := hi
      rw [th_cn_big t (by omega)] at hi
      exact absurd hi (Nat.not_lt_zero i)
end
section
section LW
variable {l : Launch} {z : th_Z} {cc : ByteArray} {nL pc kc ks : Nat} {own : String} {rm : Room} {ret : Option FieldType} {tb : List ExceptionTableEntry} {lv : List (Nat × th_V)} {st : List th_V} {mu : th_M} {I : th_I}
theorem th_lst (C : th_C l z cc nL own rm ret tb) {t i j n : Nat} {x v : Int32} (hd1 : decode cc pc = .ok (.i2l, 1)) (hd2 : decode cc (pc + 1) = .ok (.lastore, 1)) (hi : i < mu.1 t) (hk : th_kd t = (3, j)) (hty : ∀ cA, (th_ty cA)[j]? = some (cA j, .long)) (hin : th_ix x n (mu.2.2.2.1 t i))
    (k : th_G l z nL (pc + 2) lv st (mu.1, th_u mu.2.1 t i n v, mu.2.2) kc ks) : th_G l z nL pc lv (.inl v :: .inl x :: .inr (some (t, i)) :: st) mu kc ks := by
  obtain ⟨p, e, R, s, m, args, below, meth, c, Q, D, cA, base, al⟩ := z
  obtain ⟨hx, hb, hml, hown, hts, hlo, hK, -⟩ := C
  intro H locs ls hw hS hl
  obtain ⟨hin, rfl⟩ := hin
  refine lv_i2l hx hb hd1 rfl ?_
  refine W.last hx hb (th_ck_lng (hw.1 t i hi) hk) ((hK.2 j _ (hty cA)).1 _ _) (fun q => by cases q) (by rw [arrV_size]; exact hin) rfl rfl hd2 fun H1 e1 e2 e3 => ?_
  refine k H1 _ ls ?_ (hS.put e2 e3 (hw.2.2.1 t i hi)) hl
  refine th_W_put hw hi rfl ?_ e3 (fun t' i' h => th_u_ne _ _ _ h) (fun _ _ _ => rfl) rfl e2
  unfold th_ck
  rw [hk]
  show H1[al t i]? = _
  rw [e1, arrV_store]
  congr 2
  funext q
  show updV _ _ _ q = Value.long (th_u mu.2.1 t i _ v t i q).toInt64
  rw [th_u_self]
  by_cases hq : q = x.toNatClampNeg
  · subst hq
    simp [updV, upd]
  · simp [updV, upd, hq]
theorem th_lcm (C : th_C l z cc nL own rm ret tb) {t i j n q tgt : Nat} {off : Int} {x b : Int32} (hd1 : decode cc pc = .ok (.laload, 1)) (hd2 : decode cc (pc + 1) = .ok (.iload q, 2)) (hd3 : decode cc (pc + 3) = .ok (.i2l, 1)) (hd4 : decode cc (pc + 4) = .ok (.lcmp, 1)) (hd5 : decode cc (pc + 5) = .ok (.ifCond .eq off, 3)) (ht : ((pc + 5 : Nat) : Int) + off = (tgt : Int)) (hb0 : th_lk lv q = some (.inl b))
    (hi : i < mu.1 t) (hk : th_kd t = (3, j)) (hty : ∀ cA, (th_ty cA)[j]? = some (cA j, .long)) (hin : th_ix x n (mu.2.2.2.1 t i)) (he : mu.2.1 t i n = b)
    (k : th_G l z nL tgt lv st mu kc ks) : th_G l z nL pc lv (.inl x :: .inr (some (t, i)) :: st) mu kc ks := by
  subst he
  obtain ⟨p, e, R, s, m, args, below, meth, c, Q, D, cA, base, al⟩ := z
  obtain ⟨hx, hb, hml, hown, hts, hlo, hK, -⟩ := C
  intro H locs ls hw hS hl
  have hlt := hin.lt
  obtain ⟨hin, rfl⟩ := hin
  refine W.lald (v := .long (mu.2.1 t i x.toNatClampNeg).toInt64) hx hb (th_ck_lng (hw.1 t i hi) hk) ((hK.2 j _ (hty cA)).1 _ _) (fun q => by cases q) (by rw [arrV_size]; exact hin) (by rw [arrV_read _ _ hlt]) rfl rfl hd1 ?_
  refine lv_iload (x := mu.2.1 t i x.toNatClampNeg) hx hb hd2 (th_lk_at hb0 hl) ?_
  refine lv_i2l hx hb hd3 rfl ?_
  refine W.lcmp hx hb hd4 ?_
  refine lv_if_eq hx hb hd5 ht (fun _ => k H locs ls hw hS hl) (fun h => absurd ?_ h)
  simp [lg_cmp]
theorem th_drop_has {lv' : List (Nat × th_V)} {i : Nat} {v : Value} {al : th_A} {ls : Array Slot} (hlv : ∀ q ∈ lv, q.1 ≠ i)
    (h : lv_has ls nL ((i, v) :: (lv.map fun q => (q.1, th_cv al q.2)).filter (fun q => !(q.1 == i) && !(q.1 + 1 == i && q.2.category == 2)))) : lv_has ls nL (lv.map fun q => (q.1, th_cv al q.2)) := by
  refine ⟨h.1, h.2.1, fun q hq => h.2.2 q ?_⟩
  obtain ⟨x, hx, rfl⟩ := List.mem_map.mp hq
  refine List.mem_cons_of_mem _ (List.mem_filter.mpr ⟨List.mem_map.mpr ⟨x, hx, rfl⟩, ?_⟩)
  have hc := th_cv_cat al x.2
  have hn := hlv x hx
  simp only [hc]
  simpa using hn
theorem th_catchX (C : th_C l z cc nL own rm ret tb) {E name : String} {pre suf : List ExceptionTableEntry} {x : ExceptionTableEntry} (hsp : tb = pre ++ x :: suf) (hpass : ∀ q ∈ pre, q.catchType ≠ 0 ∧ ∃ nm, Cond.classLink own q.catchType nm ∈ th_B ∧ (E, nm) ∈ th_NC) (hcov : covers x pc = true) (h0 : x.catchType ≠ 0) (hlk : Cond.classLink own x.catchType name ∈ th_B) (hcast : Cond.castable E name ∈ th_NB) {i len : Nat}
    (hd : (decode cc x.handlerPc = .ok (.astore i, 2) ∧ len = 2) ∨ (∃ j : Fin 4, decode cc x.handlerPc = .ok (.astore_n j, 1) ∧ (j : Nat) = i ∧ len = 1)) (hn : i < nL) (hlv : ∀ q ∈ lv, q.1 ≠ i) (k : th_G l z nL (x.handlerPc + len) lv [] mu kc ks) : th_X l z nL pc lv E mu kc ks := by
  obtain ⟨p, e, R, s, m, args, below, meth, c, Q, D, cA, base, al⟩ := z
  obtain ⟨hx, hb, hml, hown, hts, hlo, hK, hST, hbs, hR, hr, htt, htr, hal⟩ := C
  intro H locs ls rest q ce hw hS hl hce hcv hcl
  refine vx_catch hown pre x suf (by rw [htt]; exact hsp) (fun w hw => ?_) hcov h0 (hts _ hlk) (va_Nw.use rfl (hST.2.1 _ hcast)) hce hcv hcl ?_
  · obtain ⟨g1, nm, g2, g3⟩ := hpass w hw
    exact Or.inr ⟨g1, nm, hts _ g2, hST.2.2.1 _ g3⟩
  · rcases hd with ⟨hd, rfl⟩ | ⟨j, hd, hj, rfl⟩
    · exact lv_astore hx hb hd hl hn rfl (fun ls' hl' => k H locs ls' hw hS (th_drop_has (lv' := lv) hlv hl'))
    · exact lv_astore_n hx hb hd hj hl hn rfl (fun ls' hl' => k H locs ls' hw hS (th_drop_has (lv' := lv) hlv hl'))
def th_FW (l : Launch) (y : MethodName) (cc : ByteArray) (mL : Nat) (ret : Option FieldType) (hh : List (Nat × Nat × Nat × Nat)) (rm : Room) (as : List th_V) (mu : th_M) (Φ : th_P) : Prop :=
  ∀ (D : va_G) (cA : Nat → ClassId) (base : Nat) (al : th_A), th_aok base al → vx_Met l y (.codeWith y cc mL ret hh :: th_B) rm (th_Pc D cA base al as mu) (th_Qc D cA base al Φ) (th_Xc D cA base al Φ) rm.cells rm.slots (fun q => base ≤ q)
theorem th_ofW {y : MethodName} {mL : Nat} {hh : List (Nat × Nat × Nat × Nat)} {as : List th_V} {Φ : th_P} (hl : l.stackTraces = false) (hy : plainName y.cls = true) (hn : as.length ≤ mL)
    (body : ∀ z : th_Z, th_C l z cc mL y.cls rm ret (tableOf hh) → th_Q z Φ rm.cells rm.slots → th_G l z mL 0 (th_al 0 as) [] mu 0 0) : th_FW l y cc mL ret hh rm as mu Φ := by
  intro D cA base al hal
  refine vx_ofWH (cc := cc) (maxL := mL) (ret := ret) (hh := hh) hy rfl ?_
  intro p e s m args below meth c s₁ B hml hv
  obtain ⟨rfl, hbs, hw, hK, hST⟩ := hv
  have hts := atoms_spec (ws := .codeWith y cc mL ret hh :: th_B) B.pre
  have hown : s.vm.findClass y.cls = some m.cls := findClass_of_methodNamed B.named
  have htab := vx_table (x := y) B (hts _ List.mem_cons_self)
  have hg := body (p, e, (headSpec (.codeWith y cc mL ret hh :: th_B) rm).room, s, m, (as.map (th_cv al)).toArray, below, meth, c, _, D, cA, base, al)
    ⟨B.exec, B.bytes, hml, hown, fun w h => hts w (List.mem_cons_of_mem _ h), B.notSynchronized, hK, hST, hbs, rfl, B.returns, htab, hl, hal⟩ rfl
  rw [lg_entry_eq]
  exact hg s.heap [] _ hw va_S.rf (by rw [← th_al_args]; exact lv_entry (as.map (th_cv al)) (by rw [th_al_len]; exact hn))
def th_okW (own : String) (ix : Nat) (y : MethodName) (cy : ByteArray) (mL : Nat) (rety : Option FieldType) (hh : List (Nat × Nat × Nat × Nat)) (n : Nat) : Prop :=
  (Cond.codeWith y cy mL rety hh ∈ th_B ∧ Cond.initialized y.cls ∈ th_B ∧ Cond.methodLink own ix y ∈ th_B ∧ y.cls ≠ "java/lang/invoke/MethodHandle" ∧ y.cls ≠ "java/lang/invoke/VarHandle" ∧ (parseMethodDescriptor y.desc).map (fun d => d.parameters.length) = some n) ∧ Cond.static y ∈ th_B
theorem th_callW {y : MethodName} {cy : ByteArray} {mL : Nat} {rety : Option FieldType} {hh : List (Nat × Nat × Nat × Nat)} {rmy : Room} {as : List th_V} {P : Int32 → th_I → Prop} {ix : Nat} {stk : List th_V} (C : th_C l z cc nL own rm ret tb)
    (hM : th_FW l y cy mL rety hh rmy as mu (th_ri P)) (ok : th_okW own ix y cy mL rety hh as.length) (hrm : th_okR rmy rm mL kc ks = true) (hst : st.length ≤ 8) (hd : decode cc pc = .ok (.invokestatic ix, 3)) (hstk : as.reverse ++ st = stk)
    (k : ∀ (x : Int32) (J : th_I), P x J → th_G l z nL (pc + 3) lv (.inl x :: st) (th_m J) (kc + rmy.cells) (ks + rmy.slots)) : th_G l z nL pc lv stk mu kc ks := by
  obtain ⟨p, e, R, s, m, args, below, meth, c, Q, D, cA, base, al⟩ := z
  intro H locs ls hw hS hl
  obtain ⟨hx, hb, hml, hown, hts, hlo, hK, hST, hbs, hR, hr, htb, htr, hal⟩ := id C
  subst hstk
  subst hR
  obtain ⟨⟨hf1, hf2⟩, hf3, hf4⟩ := th_okR_of hrm
  obtain ⟨⟨h1, h2, h3, h4, h5, h6⟩, ok2⟩ := ok
  refine th_coreM (vx_runSW (n := as.length) (hh := hh) (bytes := cy) (maxL := mL) (ret := rety) (As := as.map (th_cv al)) (rest := st.map (th_cv al)) ⟨hx, hb, hml, hown, hts⟩ (th_toMet (hM D cA base al hal) (th_noX (fun E mu' h => by obtain ⟨x, J, q, -⟩ := h; cases q))) ⟨⟨rfl, rfl, hf1, hf2, fun w hw a' U hW => ?_, List.mem_cons_self⟩, hts _ h1, hts _ h2, ⟨h4, h5⟩, fun sig h => ?_, hts _ h3, hts _ ok2⟩ ⟨th_Pc_blind, fun U hU hW => th_Pc_at (as := as) hU hW hbs hw hK hST hS⟩ rfl (by simp) hl.1 (by simp) (lv_room (by rw [th_cat_sum]; exact hst)) hd ⟨hf3, hf4⟩) hS hl (fun v mu' h => ?_)
  · have hm : w ∈ th_B := by
      rcases List.mem_cons.mp hw with rfl | h
      · exact h1
      · exact h
    exact word_at hW (good_of_word (List.mem_filter.mp hm).2) (hts w hm)
  · rw [h] at h6
    exact (Option.some.inj h6).symm
  · obtain ⟨x, J, q, rfl, h⟩ := h
    cases q
    exact k x J h
def th_SX (z : th_Z) (L : Nat) (xs : Nat → Int32) : Prop := match z with
  | (_p, _e, _R, s, _m, _args, _below, _meth, _c, _Q, _D, _cA, base, al) => va_X (al 90 0) L xs s s.heap ∧ al 90 0 < s.heap.size ∧ ¬ base ≤ al 90 0
theorem th_xlen (C : th_C l z cc nL own rm ret tb) {L : Nat} {xs : Nat → Int32} {v : Int32} (hX : th_SX z L xs) (hd : decode cc pc = .ok (.arraylength, 1)) (hv : Int32.ofNat L = v)
    (k : th_G l z nL (pc + 1) lv (.inl v :: st) mu kc ks) : th_G l z nL pc lv (.inr (some (90, 0)) :: st) mu kc ks := by
  subst hv
  obtain ⟨p, e, R, s, m, args, below, meth, c, Q, D, cA, base, al⟩ := z
  obtain ⟨hx, hb, hml, hown, hts, hlo, hK, hST, hbs, hR, hr, htt, htr, hal⟩ := C
  obtain ⟨h1, h2, h3⟩ := hX
  intro H locs ls hw hS hl
  exact va_slen hx hb h1 h2 h3 hS hd (k H locs ls hw hS hl)
theorem th_xld (C : th_C l z cc nL own rm ret tb) {L n : Nat} {xs : Nat → Int32} {x : Int32} {a : Int} (hX : th_SX z L xs) (hd : decode cc pc = .ok (.iaload, 1)) (hx0 : x.toInt = a) (hn : (n : Int) = a) (h1 : n < L)
    (k : th_G l z nL (pc + 1) lv (.inl (xs n) :: st) mu kc ks) : th_G l z nL pc lv (.inl x :: .inr (some (90, 0)) :: st) mu kc ks := by
  obtain ⟨h2, rfl⟩ := th_ixN hx0 hn h1
  obtain ⟨p, e, R, s, m, args, below, meth, c, Q, D, cA, base, al⟩ := z
  obtain ⟨hx, hb, hml, hown, hts, hlo, hK, hST, hbs, hR, hr, htt, htr, hal⟩ := C
  obtain ⟨q1, q2, q3⟩ := hX
  intro H locs ls hw hS hl
  exact va_sld hx hb q1 q2 q3 hS h2 hd (k H locs ls hw hS hl)
theorem th_newl (C : th_C l z cc nL own rm ret tb) {t i j N n : Nat} {x : Int32} (hd : decode cc pc = .ok (.newarray .long, 2)) (hk : th_kd t = (3, j)) (hty : ∀ cA, (th_ty cA)[j]? = some (cA j, .long)) (harr : Cond.arrayClass .long ∈ th_B) (hx0 : ¬ x < 0) (hxN : x.toNatClampNeg = N) (hN : N ≤ 1000) (hn : mu.2.2.2.2 = n + 1) (hi : mu.1 t = i) (ht : t < 90) (had : th_ad t i = n)
    (hL : mu.2.2.2.1 t i = N) (hz : ∀ k, mu.2.1 t i k = 0) (hc1 : kc + 1 ≤ rm.cells) (hs1 : ks + N ≤ rm.slots)
    (k : th_G l z nL (pc + 2) lv (.inr (some (t, i)) :: st) (th_mk mu t i) (kc + 1) (ks + N)) : th_G l z nL pc lv (.inl x :: st) mu kc ks := by
  obtain ⟨p, e, R, s, m, args, below, meth, c, Q, D, cA, base, al⟩ := z
  obtain ⟨hx, hb, hml, hown, hts, hlo, hK, hST, hbs, hR, hr, htb, htr, hal⟩ := C
  subst hR
  intro H locs ls hw hS hl
  have hal1 : al t i = base + n := by rw [hal t i ht, had]
  have hsz : H.size = base + n := by
    rcases hw.2.2.2 with f | f
    · omega
    · omega
  have hNm := (hK.2 j _ (hty cA)).2
  refine va_newaK (atype := .long) hx hb (hts _ harr) rfl hd rfl hx0 hxN (by show N * 8 ≤ _; omega) hc1 hs1 rfl fun H1 cB e1 z1 o1 hAr hN2 => ?_
  have hcB : cB = cA j := Option.some.inj (hN2.symm.trans hNm)
  subst hcB
  have hw1 : th_W D cA base al (th_mk mu t i) H1 := by
    refine th_W_new hw hn hi hal1 o1 z1 ?_
    unfold th_ck
    rw [hk]
    show H1[al t i]? = _
    rw [hal1, ← hsz, e1, hL]
    congr 2
    funext q
    rw [hz q]
    rfl
  have hS1 : va_S (fun q => base ≤ q) s.heap H1 locs := ⟨Nat.le_trans hS.1 (by omega), fun x h1 h2 => (o1 x (Nat.lt_of_lt_of_le h1 hS.1)).trans (hS.2.1 x h1 h2), hS.2.2⟩
  have := k H1 locs ls hw1 hS1 hl
  simp only [List.map_cons, th_cv, hal1] at this
  rw [hsz]
  exact this
end LW
end
section
theorem dc_L_add_0 : decode cb_L_add 0 = .ok (.aload 5, 2) := by decide +kernel
theorem dc_L_add_2 : decode cb_L_add 2 = .ok (.iconst 0, 1) := by decide +kernel
theorem dc_L_add_3 : decode cb_L_add 3 = .ok (.aload_n 0, 1) := by decide +kernel
theorem dc_L_add_4 : decode cb_L_add 4 = .ok (.iload_n 1, 1) := by decide +kernel
theorem dc_L_add_5 : decode cb_L_add 5 = .ok (.iload_n 2, 1) := by decide +kernel
theorem dc_L_add_6 : decode cb_L_add 6 = .ok (.iload_n 3, 1) := by decide +kernel
theorem dc_L_add_7 : decode cb_L_add 7 = .ok (.iload 4, 2) := by decide +kernel
theorem dc_L_add_9 : decode cb_L_add 9 = .ok (.invokevirtual 7, 3) := by decide +kernel
theorem dc_L_add_12 : decode cb_L_add 12 = .ok (.i2l, 1) := by decide +kernel
theorem dc_L_add_13 : decode cb_L_add 13 = .ok (.lastore, 1) := by decide +kernel
theorem dc_L_add_14 : decode cb_L_add 14 = .ok (.goto 15, 3) := by decide +kernel
theorem dc_L_add_17 : decode cb_L_add 17 = .ok (.astore 6, 2) := by decide +kernel
theorem dc_L_add_19 : decode cb_L_add 19 = .ok (.iconst 1, 1) := by decide +kernel
theorem dc_L_add_20 : decode cb_L_add 20 = .ok (.ireturn, 1) := by decide +kernel
theorem dc_L_add_21 : decode cb_L_add 21 = .ok (.astore 6, 2) := by decide +kernel
theorem dc_L_add_23 : decode cb_L_add 23 = .ok (.iconst 2, 1) := by decide +kernel
theorem dc_L_add_24 : decode cb_L_add 24 = .ok (.ireturn, 1) := by decide +kernel
theorem dc_L_add_25 : decode cb_L_add 25 = .ok (.astore 6, 2) := by decide +kernel
theorem dc_L_add_27 : decode cb_L_add 27 = .ok (.iconst 3, 1) := by decide +kernel
theorem dc_L_add_28 : decode cb_L_add 28 = .ok (.ireturn, 1) := by decide +kernel
theorem dc_L_add_29 : decode cb_L_add 29 = .ok (.iconst 0, 1) := by decide +kernel
theorem dc_L_add_30 : decode cb_L_add 30 = .ok (.ireturn, 1) := by decide +kernel
theorem dc_L_clear_0 : decode cb_L_clear 0 = .ok (.aload_n 2, 1) := by decide +kernel
theorem dc_L_clear_1 : decode cb_L_clear 1 = .ok (.iconst 0, 1) := by decide +kernel
theorem dc_L_clear_2 : decode cb_L_clear 2 = .ok (.aload_n 0, 1) := by decide +kernel
theorem dc_L_clear_3 : decode cb_L_clear 3 = .ok (.iload_n 1, 1) := by decide +kernel
theorem dc_L_clear_4 : decode cb_L_clear 4 = .ok (.invokevirtual 19, 3) := by decide +kernel
theorem dc_L_clear_7 : decode cb_L_clear 7 = .ok (.i2l, 1) := by decide +kernel
theorem dc_L_clear_8 : decode cb_L_clear 8 = .ok (.lastore, 1) := by decide +kernel
theorem dc_L_clear_9 : decode cb_L_clear 9 = .ok (.goto 9, 3) := by decide +kernel
theorem dc_L_clear_12 : decode cb_L_clear 12 = .ok (.astore_n 3, 1) := by decide +kernel
theorem dc_L_clear_13 : decode cb_L_clear 13 = .ok (.iconst 1, 1) := by decide +kernel
theorem dc_L_clear_14 : decode cb_L_clear 14 = .ok (.ireturn, 1) := by decide +kernel
theorem dc_L_clear_15 : decode cb_L_clear 15 = .ok (.astore_n 3, 1) := by decide +kernel
theorem dc_L_clear_16 : decode cb_L_clear 16 = .ok (.iconst 2, 1) := by decide +kernel
theorem dc_L_clear_17 : decode cb_L_clear 17 = .ok (.ireturn, 1) := by decide +kernel
theorem dc_L_clear_18 : decode cb_L_clear 18 = .ok (.iconst 0, 1) := by decide +kernel
theorem dc_L_clear_19 : decode cb_L_clear 19 = .ok (.ireturn, 1) := by decide +kernel
theorem dc_L_start_0 : decode cb_L_start 0 = .ok (.aload_n 2, 1) := by decide +kernel
theorem dc_L_start_1 : decode cb_L_start 1 = .ok (.iconst 0, 1) := by decide +kernel
theorem dc_L_start_2 : decode cb_L_start 2 = .ok (.aload_n 0, 1) := by decide +kernel
theorem dc_L_start_3 : decode cb_L_start 3 = .ok (.iload_n 1, 1) := by decide +kernel
theorem dc_L_start_4 : decode cb_L_start 4 = .ok (.invokevirtual 23, 3) := by decide +kernel
theorem dc_L_start_7 : decode cb_L_start 7 = .ok (.i2l, 1) := by decide +kernel
theorem dc_L_start_8 : decode cb_L_start 8 = .ok (.lastore, 1) := by decide +kernel
theorem dc_L_start_9 : decode cb_L_start 9 = .ok (.goto 6, 3) := by decide +kernel
theorem dc_L_start_12 : decode cb_L_start 12 = .ok (.astore_n 3, 1) := by decide +kernel
theorem dc_L_start_13 : decode cb_L_start 13 = .ok (.iconst 1, 1) := by decide +kernel
theorem dc_L_start_14 : decode cb_L_start 14 = .ok (.ireturn, 1) := by decide +kernel
theorem dc_L_start_15 : decode cb_L_start 15 = .ok (.iconst 0, 1) := by decide +kernel
theorem dc_L_start_16 : decode cb_L_start 16 = .ok (.ireturn, 1) := by decide +kernel
theorem dc_L_run_0 : decode cb_L_run 0 = .ok (.aload_n 2, 1) := by decide +kernel
theorem dc_L_run_1 : decode cb_L_run 1 = .ok (.iconst 0, 1) := by decide +kernel
theorem dc_L_run_2 : decode cb_L_run 2 = .ok (.aload_n 0, 1) := by decide +kernel
theorem dc_L_run_3 : decode cb_L_run 3 = .ok (.iload_n 1, 1) := by decide +kernel
theorem dc_L_run_4 : decode cb_L_run 4 = .ok (.invokevirtual 26, 3) := by decide +kernel
theorem dc_L_run_7 : decode cb_L_run 7 = .ok (.i2l, 1) := by decide +kernel
theorem dc_L_run_8 : decode cb_L_run 8 = .ok (.lastore, 1) := by decide +kernel
theorem dc_L_run_9 : decode cb_L_run 9 = .ok (.goto 6, 3) := by decide +kernel
theorem dc_L_run_12 : decode cb_L_run 12 = .ok (.astore_n 3, 1) := by decide +kernel
theorem dc_L_run_13 : decode cb_L_run 13 = .ok (.iconst 1, 1) := by decide +kernel
theorem dc_L_run_14 : decode cb_L_run 14 = .ok (.ireturn, 1) := by decide +kernel
theorem dc_L_run_15 : decode cb_L_run 15 = .ok (.iconst 0, 1) := by decide +kernel
theorem dc_L_run_16 : decode cb_L_run 16 = .ok (.ireturn, 1) := by decide +kernel
theorem dc_L_interrupt_0 : decode cb_L_interrupt 0 = .ok (.aload_n 2, 1) := by decide +kernel
theorem dc_L_interrupt_1 : decode cb_L_interrupt 1 = .ok (.iconst 0, 1) := by decide +kernel
theorem dc_L_interrupt_2 : decode cb_L_interrupt 2 = .ok (.aload_n 0, 1) := by decide +kernel
theorem dc_L_interrupt_3 : decode cb_L_interrupt 3 = .ok (.iload_n 1, 1) := by decide +kernel
theorem dc_L_interrupt_4 : decode cb_L_interrupt 4 = .ok (.invokevirtual 29, 3) := by decide +kernel
theorem dc_L_interrupt_7 : decode cb_L_interrupt 7 = .ok (.i2l, 1) := by decide +kernel
theorem dc_L_interrupt_8 : decode cb_L_interrupt 8 = .ok (.lastore, 1) := by decide +kernel
theorem dc_L_interrupt_9 : decode cb_L_interrupt 9 = .ok (.goto 6, 3) := by decide +kernel
theorem dc_L_interrupt_12 : decode cb_L_interrupt 12 = .ok (.astore_n 3, 1) := by decide +kernel
theorem dc_L_interrupt_13 : decode cb_L_interrupt 13 = .ok (.iconst 1, 1) := by decide +kernel
theorem dc_L_interrupt_14 : decode cb_L_interrupt 14 = .ok (.ireturn, 1) := by decide +kernel
theorem dc_L_interrupt_15 : decode cb_L_interrupt 15 = .ok (.iconst 0, 1) := by decide +kernel
theorem dc_L_interrupt_16 : decode cb_L_interrupt 16 = .ok (.ireturn, 1) := by decide +kernel
theorem dc_L_slice_0 : decode cb_L_slice 0 = .ok (.aload_n 2, 1) := by decide +kernel
theorem dc_L_slice_1 : decode cb_L_slice 1 = .ok (.iconst 0, 1) := by decide +kernel
theorem dc_L_slice_2 : decode cb_L_slice 2 = .ok (.aload_n 0, 1) := by decide +kernel
theorem dc_L_slice_3 : decode cb_L_slice 3 = .ok (.iload_n 1, 1) := by decide +kernel
theorem dc_L_slice_4 : decode cb_L_slice 4 = .ok (.invokevirtual 32, 3) := by decide +kernel
theorem dc_L_slice_7 : decode cb_L_slice 7 = .ok (.i2l, 1) := by decide +kernel
theorem dc_L_slice_8 : decode cb_L_slice 8 = .ok (.lastore, 1) := by decide +kernel
theorem dc_L_slice_9 : decode cb_L_slice 9 = .ok (.goto 6, 3) := by decide +kernel
theorem dc_L_slice_12 : decode cb_L_slice 12 = .ok (.astore_n 3, 1) := by decide +kernel
theorem dc_L_slice_13 : decode cb_L_slice 13 = .ok (.iconst 1, 1) := by decide +kernel
theorem dc_L_slice_14 : decode cb_L_slice 14 = .ok (.ireturn, 1) := by decide +kernel
theorem dc_L_slice_15 : decode cb_L_slice 15 = .ok (.iconst 0, 1) := by decide +kernel
theorem dc_L_slice_16 : decode cb_L_slice 16 = .ok (.ireturn, 1) := by decide +kernel
theorem dc_L_global_0 : decode cb_L_global 0 = .ok (.aload_n 3, 1) := by decide +kernel
theorem dc_L_global_1 : decode cb_L_global 1 = .ok (.iconst 0, 1) := by decide +kernel
theorem dc_L_global_2 : decode cb_L_global 2 = .ok (.aload_n 0, 1) := by decide +kernel
theorem dc_L_global_3 : decode cb_L_global 3 = .ok (.iload_n 1, 1) := by decide +kernel
theorem dc_L_global_4 : decode cb_L_global 4 = .ok (.iload_n 2, 1) := by decide +kernel
theorem dc_L_global_5 : decode cb_L_global 5 = .ok (.invokevirtual 35, 3) := by decide +kernel
theorem dc_L_global_8 : decode cb_L_global 8 = .ok (.i2l, 1) := by decide +kernel
theorem dc_L_global_9 : decode cb_L_global 9 = .ok (.lastore, 1) := by decide +kernel
theorem dc_L_global_10 : decode cb_L_global 10 = .ok (.goto 7, 3) := by decide +kernel
theorem dc_L_global_13 : decode cb_L_global 13 = .ok (.astore 4, 2) := by decide +kernel
theorem dc_L_global_15 : decode cb_L_global 15 = .ok (.iconst 1, 1) := by decide +kernel
theorem dc_L_global_16 : decode cb_L_global 16 = .ok (.ireturn, 1) := by decide +kernel
theorem dc_L_global_17 : decode cb_L_global 17 = .ok (.iconst 0, 1) := by decide +kernel
theorem dc_L_global_18 : decode cb_L_global 18 = .ok (.ireturn, 1) := by decide +kernel
theorem dc_L_special_0 : decode cb_L_special 0 = .ok (.aload_n 3, 1) := by decide +kernel
theorem dc_L_special_1 : decode cb_L_special 1 = .ok (.iconst 0, 1) := by decide +kernel
theorem dc_L_special_2 : decode cb_L_special 2 = .ok (.aload_n 0, 1) := by decide +kernel
theorem dc_L_special_3 : decode cb_L_special 3 = .ok (.iload_n 1, 1) := by decide +kernel
theorem dc_L_special_4 : decode cb_L_special 4 = .ok (.iload_n 2, 1) := by decide +kernel
theorem dc_L_special_5 : decode cb_L_special 5 = .ok (.invokevirtual 39, 3) := by decide +kernel
theorem dc_L_special_8 : decode cb_L_special 8 = .ok (.i2l, 1) := by decide +kernel
theorem dc_L_special_9 : decode cb_L_special 9 = .ok (.lastore, 1) := by decide +kernel
theorem dc_L_special_10 : decode cb_L_special 10 = .ok (.goto 7, 3) := by decide +kernel
theorem dc_L_special_13 : decode cb_L_special 13 = .ok (.astore 4, 2) := by decide +kernel
theorem dc_L_special_15 : decode cb_L_special 15 = .ok (.iconst 1, 1) := by decide +kernel
theorem dc_L_special_16 : decode cb_L_special 16 = .ok (.ireturn, 1) := by decide +kernel
theorem dc_L_special_17 : decode cb_L_special 17 = .ok (.iconst 0, 1) := by decide +kernel
theorem dc_L_special_18 : decode cb_L_special 18 = .ok (.ireturn, 1) := by decide +kernel
theorem dc_L_look_0 : decode cb_L_look 0 = .ok (.aload_n 3, 1) := by decide +kernel
theorem dc_L_look_1 : decode cb_L_look 1 = .ok (.iconst 0, 1) := by decide +kernel
theorem dc_L_look_2 : decode cb_L_look 2 = .ok (.aload_n 0, 1) := by decide +kernel
theorem dc_L_look_3 : decode cb_L_look 3 = .ok (.iload_n 1, 1) := by decide +kernel
theorem dc_L_look_4 : decode cb_L_look 4 = .ok (.iload_n 2, 1) := by decide +kernel
theorem dc_L_look_5 : decode cb_L_look 5 = .ok (.invokevirtual 42, 3) := by decide +kernel
theorem dc_L_look_8 : decode cb_L_look 8 = .ok (.i2l, 1) := by decide +kernel
theorem dc_L_look_9 : decode cb_L_look 9 = .ok (.lastore, 1) := by decide +kernel
theorem dc_L_look_10 : decode cb_L_look 10 = .ok (.goto 7, 3) := by decide +kernel
theorem dc_L_look_13 : decode cb_L_look 13 = .ok (.astore 4, 2) := by decide +kernel
theorem dc_L_look_15 : decode cb_L_look 15 = .ok (.iconst 1, 1) := by decide +kernel
theorem dc_L_look_16 : decode cb_L_look 16 = .ok (.ireturn, 1) := by decide +kernel
theorem dc_L_look_17 : decode cb_L_look 17 = .ok (.iconst 0, 1) := by decide +kernel
theorem dc_L_look_18 : decode cb_L_look 18 = .ok (.ireturn, 1) := by decide +kernel
theorem dc_L_lock_0 : decode cb_L_lock 0 = .ok (.aload_n 3, 1) := by decide +kernel
theorem dc_L_lock_1 : decode cb_L_lock 1 = .ok (.iconst 0, 1) := by decide +kernel
theorem dc_L_lock_2 : decode cb_L_lock 2 = .ok (.aload_n 0, 1) := by decide +kernel
theorem dc_L_lock_3 : decode cb_L_lock 3 = .ok (.iload_n 1, 1) := by decide +kernel
theorem dc_L_lock_4 : decode cb_L_lock 4 = .ok (.iload_n 2, 1) := by decide +kernel
theorem dc_L_lock_5 : decode cb_L_lock 5 = .ok (.invokevirtual 45, 3) := by decide +kernel
theorem dc_L_lock_8 : decode cb_L_lock 8 = .ok (.i2l, 1) := by decide +kernel
theorem dc_L_lock_9 : decode cb_L_lock 9 = .ok (.lastore, 1) := by decide +kernel
theorem dc_L_lock_10 : decode cb_L_lock 10 = .ok (.goto 7, 3) := by decide +kernel
theorem dc_L_lock_13 : decode cb_L_lock 13 = .ok (.astore 4, 2) := by decide +kernel
theorem dc_L_lock_15 : decode cb_L_lock 15 = .ok (.iconst 1, 1) := by decide +kernel
theorem dc_L_lock_16 : decode cb_L_lock 16 = .ok (.ireturn, 1) := by decide +kernel
theorem dc_L_lock_17 : decode cb_L_lock 17 = .ok (.iconst 0, 1) := by decide +kernel
theorem dc_L_lock_18 : decode cb_L_lock 18 = .ok (.ireturn, 1) := by decide +kernel
theorem dc_L_said_0 : decode cb_L_said 0 = .ok (.aload_n 2, 1) := by decide +kernel
theorem dc_L_said_1 : decode cb_L_said 1 = .ok (.iconst 0, 1) := by decide +kernel
theorem dc_L_said_2 : decode cb_L_said 2 = .ok (.aload_n 0, 1) := by decide +kernel
theorem dc_L_said_3 : decode cb_L_said 3 = .ok (.iload_n 1, 1) := by decide +kernel
theorem dc_L_said_4 : decode cb_L_said 4 = .ok (.invokevirtual 48, 3) := by decide +kernel
theorem dc_L_said_7 : decode cb_L_said 7 = .ok (.i2l, 1) := by decide +kernel
theorem dc_L_said_8 : decode cb_L_said 8 = .ok (.lastore, 1) := by decide +kernel
theorem dc_L_said_9 : decode cb_L_said 9 = .ok (.goto 6, 3) := by decide +kernel
theorem dc_L_said_12 : decode cb_L_said 12 = .ok (.astore_n 3, 1) := by decide +kernel
theorem dc_L_said_13 : decode cb_L_said 13 = .ok (.iconst 1, 1) := by decide +kernel
theorem dc_L_said_14 : decode cb_L_said 14 = .ok (.ireturn, 1) := by decide +kernel
theorem dc_L_said_15 : decode cb_L_said 15 = .ok (.iconst 0, 1) := by decide +kernel
theorem dc_L_said_16 : decode cb_L_said 16 = .ok (.ireturn, 1) := by decide +kernel
theorem dc_L_count_0 : decode cb_L_count 0 = .ok (.aload_n 2, 1) := by decide +kernel
theorem dc_L_count_1 : decode cb_L_count 1 = .ok (.iconst 0, 1) := by decide +kernel
theorem dc_L_count_2 : decode cb_L_count 2 = .ok (.aload_n 0, 1) := by decide +kernel
theorem dc_L_count_3 : decode cb_L_count 3 = .ok (.iload_n 1, 1) := by decide +kernel
theorem dc_L_count_4 : decode cb_L_count 4 = .ok (.invokevirtual 51, 3) := by decide +kernel
theorem dc_L_count_7 : decode cb_L_count 7 = .ok (.i2l, 1) := by decide +kernel
theorem dc_L_count_8 : decode cb_L_count 8 = .ok (.lastore, 1) := by decide +kernel
theorem dc_L_count_9 : decode cb_L_count 9 = .ok (.goto 6, 3) := by decide +kernel
theorem dc_L_count_12 : decode cb_L_count 12 = .ok (.astore_n 3, 1) := by decide +kernel
theorem dc_L_count_13 : decode cb_L_count 13 = .ok (.iconst 1, 1) := by decide +kernel
theorem dc_L_count_14 : decode cb_L_count 14 = .ok (.ireturn, 1) := by decide +kernel
theorem dc_L_count_15 : decode cb_L_count 15 = .ok (.iconst 0, 1) := by decide +kernel
theorem dc_L_count_16 : decode cb_L_count 16 = .ok (.ireturn, 1) := by decide +kernel
theorem ok_L_7 : th_okV rn_L 7 rn_H yn_H_add cb_H_add 6 (some .int) 4 := ⟨⟨(tb 271 (by decide +kernel) rfl), (tb 47 (by decide +kernel) rfl), (tb 268 (by decide +kernel) rfl), by decide, by decide, by decide⟩, (tb 269 (by decide +kernel) rfl), (tb 270 (by decide +kernel) rfl)⟩
theorem ok_L_19 : th_okV rn_L 19 rn_H yn_H_clear cb_H_clear 3 (some .int) 1 := ⟨⟨(tb 395 (by decide +kernel) rfl), (tb 47 (by decide +kernel) rfl), (tb 392 (by decide +kernel) rfl), by decide, by decide, by decide⟩, (tb 393 (by decide +kernel) rfl), (tb 394 (by decide +kernel) rfl)⟩
theorem ok_L_23 : th_okV rn_L 23 rn_H yn_H_start cb_H_start 2 (some .int) 1 := ⟨⟨(tb 402 (by decide +kernel) rfl), (tb 47 (by decide +kernel) rfl), (tb 399 (by decide +kernel) rfl), by decide, by decide, by decide⟩, (tb 400 (by decide +kernel) rfl), (tb 401 (by decide +kernel) rfl)⟩
theorem ok_L_26 : th_okV rn_L 26 rn_H yn_H_run cb_H_run 5 (some .int) 1 := ⟨⟨(tb 421 (by decide +kernel) rfl), (tb 47 (by decide +kernel) rfl), (tb 418 (by decide +kernel) rfl), by decide, by decide, by decide⟩, (tb 419 (by decide +kernel) rfl), (tb 420 (by decide +kernel) rfl)⟩
theorem ok_L_29 : th_okV rn_L 29 rn_H yn_H_interrupt cb_H_interrupt 2 (some .int) 1 := ⟨⟨(tb 564 (by decide +kernel) rfl), (tb 47 (by decide +kernel) rfl), (tb 561 (by decide +kernel) rfl), by decide, by decide, by decide⟩, (tb 562 (by decide +kernel) rfl), (tb 563 (by decide +kernel) rfl)⟩
theorem ok_L_32 : th_okV rn_L 32 rn_H yn_H_slice cb_H_slice 3 (some .int) 1 := ⟨⟨(tb 571 (by decide +kernel) rfl), (tb 47 (by decide +kernel) rfl), (tb 568 (by decide +kernel) rfl), by decide, by decide, by decide⟩, (tb 569 (by decide +kernel) rfl), (tb 570 (by decide +kernel) rfl)⟩
theorem ok_L_35 : th_okV rn_L 35 rn_H yn_H_global cb_H_global 4 (some .int) 2 := ⟨⟨(tb 578 (by decide +kernel) rfl), (tb 47 (by decide +kernel) rfl), (tb 575 (by decide +kernel) rfl), by decide, by decide, by decide⟩, (tb 576 (by decide +kernel) rfl), (tb 577 (by decide +kernel) rfl)⟩
theorem ok_L_39 : th_okV rn_L 39 rn_H yn_H_special cb_H_special 3 (some .int) 2 := ⟨⟨(tb 585 (by decide +kernel) rfl), (tb 47 (by decide +kernel) rfl), (tb 582 (by decide +kernel) rfl), by decide, by decide, by decide⟩, (tb 583 (by decide +kernel) rfl), (tb 584 (by decide +kernel) rfl)⟩
theorem ok_L_42 : th_okV rn_L 42 rn_H yn_H_look cb_H_look 4 (some .int) 2 := ⟨⟨(tb 592 (by decide +kernel) rfl), (tb 47 (by decide +kernel) rfl), (tb 589 (by decide +kernel) rfl), by decide, by decide, by decide⟩, (tb 590 (by decide +kernel) rfl), (tb 591 (by decide +kernel) rfl)⟩
theorem ok_L_45 : th_okV rn_L 45 rn_H yn_H_lock cb_H_lock 3 (some .int) 2 := ⟨⟨(tb 599 (by decide +kernel) rfl), (tb 47 (by decide +kernel) rfl), (tb 596 (by decide +kernel) rfl), by decide, by decide, by decide⟩, (tb 597 (by decide +kernel) rfl), (tb 598 (by decide +kernel) rfl)⟩
theorem ok_L_48 : th_okV rn_L 48 rn_H yn_H_said cb_H_said 2 (some .int) 1 := ⟨⟨(tb 606 (by decide +kernel) rfl), (tb 47 (by decide +kernel) rfl), (tb 603 (by decide +kernel) rfl), by decide, by decide, by decide⟩, (tb 604 (by decide +kernel) rfl), (tb 605 (by decide +kernel) rfl)⟩
theorem ok_L_51 : th_okV rn_L 51 rn_H yn_H_count cb_H_count 2 (some .int) 1 := ⟨⟨(tb 613 (by decide +kernel) rfl), (tb 47 (by decide +kernel) rfl), (tb 610 (by decide +kernel) rfl), by decide, by decide, by decide⟩, (tb 611 (by decide +kernel) rfl), (tb 612 (by decide +kernel) rfl)⟩
end
section
set_option maxRecDepth 100000 in
set_option maxHeartbeats 4000000 in
theorem q_add (l : Launch) (hl : l.stackTraces = false) (t : Int32) (o : Int32) (a : Int32) (b : Int32) : th_FW l yn_L_add cb_L_add 7 (some .int) [(0, 14, 17, 13), (0, 14, 21, 15), (0, 14, 25, 17)] { frames := 10, cells := 6, slots := 36, locals := 178 } [.inr (some (0, 0)), .inl t, .inl o, .inl a, .inl b, .inr (some (17, 0))] (th_m th_I0) (th_ri (fun k J => ((k.toInt = 0 ∧ (0 ≤ t.toInt ∧ t.toInt ≤ 4 ∧ th_valid o.toInt a.toInt b.toInt) ∧ (J 17 0 0).toInt = 1) ∨ (k.toInt = 1 ∧ ¬ (0 ≤ t.toInt ∧ t.toInt ≤ 4 ∧ th_valid o.toInt a.toInt b.toInt))) ∧ ∀ t i k, 20 ≤ t → J t i k = th_I0 t i k)) := by
  refine th_ofW hl (by decide +kernel) (Nat.le_of_ble_eq_true rfl) (fun z C hQ => ?_)
  show th_G l z 7 0 [(0, .inr (some (0, 0))), (1, .inl t), (2, .inl o), (3, .inl a), (4, .inl b), (5, .inr (some (17, 0)))] [] (th_m th_I0) 0 0
  refine th_aload C dc_L_add_0 rfl ?_
  refine th_iconst (v := 0) C dc_L_add_2 th_c_0 ?_
  refine th_aload_n C dc_L_add_3 rfl rfl ?_
  refine th_iload_n C dc_L_add_4 rfl rfl ?_
  refine th_iload_n C dc_L_add_5 rfl rfl ?_
  refine th_iload_n C dc_L_add_6 rfl rfl ?_
  refine th_iload C dc_L_add_7 rfl ?_
  refine tq_callVm C (p_H_add l hl t o a b) ok_L_7 cl_0 (show 0 < 1 from by omega) rfl (Nat.le_of_ble_eq_true rfl) dc_L_add_9 rfl (fun E J pE => ?_) (fun x J pk => ?_)
  · obtain ⟨⟨rfl, pE⟩, fE⟩ := pE
    refine th_catchX (name := "java/lang/IllegalArgumentException") (pre := []) C rfl (fun q h => nomatch h) (by decide) (by decide) (tb 265 (by decide +kernel) rfl) (tn 280 (by decide +kernel) rfl) (i := 6) (Or.inl ⟨dc_L_add_17, rfl⟩) (by decide) (by simp) ?_
    refine th_iconst (v := 1) C dc_L_add_19 th_c_1 ?_
    exact th_iret C hQ dc_L_add_20 (by decide) (by decide) ⟨_, _, rfl, rfl, Or.inr ⟨th_l_1, pE⟩, fun t i k q => fE t i k (by omega)⟩
  · obtain ⟨⟨pc1, pa⟩, fJ⟩ := pk
    refine th_lst (mu := th_m J) (n := 0) C dc_L_add_12 dc_L_add_13 (show 0 < 1 from by omega) rfl (fun _ => rfl) (th_ixN th_l_0 (by decide) (show 0 < 1 from by omega)) ?_
    refine th_goto (tgt := 29) C dc_L_add_14 (by decide) ?_
    refine th_iconst (v := 0) C dc_L_add_29 th_c_0 ?_
    exact th_iret C hQ dc_L_add_30 (by decide) (by decide) ⟨_, th_u J 17 0 0 x, rfl, rfl, Or.inl ⟨th_l_0, pc1, by rw [th_u_eq]; exact pa⟩, fun t i k q => (th_u_tag (by omega)).trans (fJ t i k (by omega))⟩

set_option maxRecDepth 100000 in
set_option maxHeartbeats 4000000 in
theorem q_clear (l : Launch) (hl : l.stackTraces = false) (t : Int32) : th_FW l yn_L_clear cb_L_clear 4 (some .int) [(0, 9, 12, 13), (0, 9, 15, 15)] { frames := 9, cells := 2, slots := 12, locals := 154 } [.inr (some (0, 0)), .inl t, .inr (some (17, 0))] (th_m th_I0) (th_ri (fun k J => ((k.toInt = 0 ∧ (0 ≤ t.toInt ∧ t.toInt ≤ 4) ∧ (J 17 0 0).toInt = 0) ∨ (k.toInt = 1 ∧ ¬ (0 ≤ t.toInt ∧ t.toInt ≤ 4))) ∧ ∀ t i k, 20 ≤ t → J t i k = th_I0 t i k)) := by
  refine th_ofW hl (by decide +kernel) (Nat.le_of_ble_eq_true rfl) (fun z C hQ => ?_)
  show th_G l z 4 0 [(0, .inr (some (0, 0))), (1, .inl t), (2, .inr (some (17, 0)))] [] (th_m th_I0) 0 0
  refine th_aload_n C dc_L_clear_0 rfl rfl ?_
  refine th_iconst (v := 0) C dc_L_clear_1 th_c_0 ?_
  refine th_aload_n C dc_L_clear_2 rfl rfl ?_
  refine th_iload_n C dc_L_clear_3 rfl rfl ?_
  refine tq_callVm C (p_H_clear l hl t) ok_L_19 cl_0 (show 0 < 1 from by omega) rfl (Nat.le_of_ble_eq_true rfl) dc_L_clear_4 rfl (fun E J pE => ?_) (fun x J pk => ?_)
  · obtain ⟨⟨rfl, pE⟩, fE⟩ := pE
    refine th_catchX (name := "java/lang/IllegalArgumentException") (pre := []) C rfl (fun q h => nomatch h) (by decide) (by decide) (tb 265 (by decide +kernel) rfl) (tn 280 (by decide +kernel) rfl) (i := 3) (Or.inr ⟨3, dc_L_clear_12, rfl, rfl⟩) (by decide) (by simp) ?_
    refine th_iconst (v := 1) C dc_L_clear_13 th_c_1 ?_
    exact th_iret C hQ dc_L_clear_14 (by decide) (by decide) ⟨_, _, rfl, rfl, Or.inr ⟨th_l_1, pE⟩, fun t i k q => fE t i k (by omega)⟩
  · obtain ⟨⟨pc1, pa⟩, fJ⟩ := pk
    refine th_lst (mu := th_m J) (n := 0) C dc_L_clear_7 dc_L_clear_8 (show 0 < 1 from by omega) rfl (fun _ => rfl) (th_ixN th_l_0 (by decide) (show 0 < 1 from by omega)) ?_
    refine th_goto (tgt := 18) C dc_L_clear_9 (by decide) ?_
    refine th_iconst (v := 0) C dc_L_clear_18 th_c_0 ?_
    exact th_iret C hQ dc_L_clear_19 (by decide) (by decide) ⟨_, th_u J 17 0 0 x, rfl, rfl, Or.inl ⟨th_l_0, pc1, by rw [th_u_eq]; exact pa⟩, fun t i k q => (th_u_tag (by omega)).trans (fJ t i k (by omega))⟩

set_option maxRecDepth 100000 in
set_option maxHeartbeats 4000000 in
theorem q_start (l : Launch) (hl : l.stackTraces = false) (t : Int32) : th_FW l yn_L_start cb_L_start 4 (some .int) [(0, 9, 12, 13)] { frames := 9, cells := 1, slots := 6, locals := 153 } [.inr (some (0, 0)), .inl t, .inr (some (17, 0))] (th_m th_I0) (th_ri (fun k J => ((k.toInt = 0 ∧ (0 ≤ t.toInt ∧ t.toInt ≤ 4) ∧ (J 17 0 0).toInt = 1) ∨ (k.toInt = 1 ∧ ¬ (0 ≤ t.toInt ∧ t.toInt ≤ 4))) ∧ ∀ t i k, 20 ≤ t → J t i k = th_I0 t i k)) := by
  refine th_ofW hl (by decide +kernel) (Nat.le_of_ble_eq_true rfl) (fun z C hQ => ?_)
  show th_G l z 4 0 [(0, .inr (some (0, 0))), (1, .inl t), (2, .inr (some (17, 0)))] [] (th_m th_I0) 0 0
  refine th_aload_n C dc_L_start_0 rfl rfl ?_
  refine th_iconst (v := 0) C dc_L_start_1 th_c_0 ?_
  refine th_aload_n C dc_L_start_2 rfl rfl ?_
  refine th_iload_n C dc_L_start_3 rfl rfl ?_
  refine tq_callVm C (p_H_start l hl t) ok_L_23 cl_0 (show 0 < 1 from by omega) rfl (Nat.le_of_ble_eq_true rfl) dc_L_start_4 rfl (fun E J pE => ?_) (fun x J pk => ?_)
  · obtain ⟨⟨rfl, pE⟩, fE⟩ := pE
    refine th_catchX (name := "java/lang/IllegalArgumentException") (pre := []) C rfl (fun q h => nomatch h) (by decide) (by decide) (tb 265 (by decide +kernel) rfl) (tn 280 (by decide +kernel) rfl) (i := 3) (Or.inr ⟨3, dc_L_start_12, rfl, rfl⟩) (by decide) (by simp) ?_
    refine th_iconst (v := 1) C dc_L_start_13 th_c_1 ?_
    exact th_iret C hQ dc_L_start_14 (by decide) (by decide) ⟨_, _, rfl, rfl, Or.inr ⟨th_l_1, pE⟩, fun t i k q => fE t i k (by omega)⟩
  · obtain ⟨⟨pc1, pa⟩, fJ⟩ := pk
    refine th_lst (mu := th_m J) (n := 0) C dc_L_start_7 dc_L_start_8 (show 0 < 1 from by omega) rfl (fun _ => rfl) (th_ixN th_l_0 (by decide) (show 0 < 1 from by omega)) ?_
    refine th_goto (tgt := 15) C dc_L_start_9 (by decide) ?_
    refine th_iconst (v := 0) C dc_L_start_15 th_c_0 ?_
    exact th_iret C hQ dc_L_start_16 (by decide) (by decide) ⟨_, th_u J 17 0 0 x, rfl, rfl, Or.inl ⟨th_l_0, pc1, by rw [th_u_eq]; exact pa⟩, fun t i k q => (th_u_tag (by omega)).trans (fJ t i k (by omega))⟩

set_option maxRecDepth 100000 in
set_option maxHeartbeats 4000000 in
theorem q_run (l : Launch) (hl : l.stackTraces = false) (n : Int32) : th_FW l yn_L_run cb_L_run 4 (some .int) [(0, 9, 12, 13)] { frames := 8, cells := 1, slots := 6, locals := 135 } [.inr (some (0, 0)), .inl n, .inr (some (17, 0))] (th_m th_I0) (th_ri (fun k J => ((k.toInt = 0 ∧ (1 ≤ n.toInt ∧ n.toInt ≤ 40) ∧ (J 17 0 0).toInt = 0) ∨ (k.toInt = 1 ∧ ¬ (1 ≤ n.toInt ∧ n.toInt ≤ 40))) ∧ ∀ t i k, 20 ≤ t → J t i k = th_I0 t i k)) := by
  refine th_ofW hl (by decide +kernel) (Nat.le_of_ble_eq_true rfl) (fun z C hQ => ?_)
  show th_G l z 4 0 [(0, .inr (some (0, 0))), (1, .inl n), (2, .inr (some (17, 0)))] [] (th_m th_I0) 0 0
  refine th_aload_n C dc_L_run_0 rfl rfl ?_
  refine th_iconst (v := 0) C dc_L_run_1 th_c_0 ?_
  refine th_aload_n C dc_L_run_2 rfl rfl ?_
  refine th_iload_n C dc_L_run_3 rfl rfl ?_
  refine tq_callVm C (p_H_run l hl n) ok_L_26 cl_0 (show 0 < 1 from by omega) rfl (Nat.le_of_ble_eq_true rfl) dc_L_run_4 rfl (fun E J pE => ?_) (fun x J pk => ?_)
  · obtain ⟨⟨rfl, pE⟩, fE⟩ := pE
    refine th_catchX (name := "java/lang/IllegalArgumentException") (pre := []) C rfl (fun q h => nomatch h) (by decide) (by decide) (tb 265 (by decide +kernel) rfl) (tn 280 (by decide +kernel) rfl) (i := 3) (Or.inr ⟨3, dc_L_run_12, rfl, rfl⟩) (by decide) (by simp) ?_
    refine th_iconst (v := 1) C dc_L_run_13 th_c_1 ?_
    exact th_iret C hQ dc_L_run_14 (by decide) (by decide) ⟨_, _, rfl, rfl, Or.inr ⟨th_l_1, pE⟩, fun t i k q => fE t i k (by omega)⟩
  · obtain ⟨⟨pc1, pa⟩, fJ⟩ := pk
    refine th_lst (mu := th_m J) (n := 0) C dc_L_run_7 dc_L_run_8 (show 0 < 1 from by omega) rfl (fun _ => rfl) (th_ixN th_l_0 (by decide) (show 0 < 1 from by omega)) ?_
    refine th_goto (tgt := 15) C dc_L_run_9 (by decide) ?_
    refine th_iconst (v := 0) C dc_L_run_15 th_c_0 ?_
    exact th_iret C hQ dc_L_run_16 (by decide) (by decide) ⟨_, th_u J 17 0 0 x, rfl, rfl, Or.inl ⟨th_l_0, pc1, by rw [th_u_eq]; exact pa⟩, fun t i k q => (th_u_tag (by omega)).trans (fJ t i k (by omega))⟩

set_option maxRecDepth 100000 in
set_option maxHeartbeats 4000000 in
theorem q_interrupt (l : Launch) (hl : l.stackTraces = false) (t : Int32) : th_FW l yn_L_interrupt cb_L_interrupt 4 (some .int) [(0, 9, 12, 13)] { frames := 9, cells := 1, slots := 6, locals := 153 } [.inr (some (0, 0)), .inl t, .inr (some (17, 0))] (th_m th_I0) (th_ri (fun k J => ((k.toInt = 0 ∧ (0 ≤ t.toInt ∧ t.toInt ≤ 4) ∧ (J 17 0 0).toInt = 0) ∨ (k.toInt = 1 ∧ ¬ (0 ≤ t.toInt ∧ t.toInt ≤ 4))) ∧ ∀ t i k, 20 ≤ t → J t i k = th_I0 t i k)) := by
  refine th_ofW hl (by decide +kernel) (Nat.le_of_ble_eq_true rfl) (fun z C hQ => ?_)
  show th_G l z 4 0 [(0, .inr (some (0, 0))), (1, .inl t), (2, .inr (some (17, 0)))] [] (th_m th_I0) 0 0
  refine th_aload_n C dc_L_interrupt_0 rfl rfl ?_
  refine th_iconst (v := 0) C dc_L_interrupt_1 th_c_0 ?_
  refine th_aload_n C dc_L_interrupt_2 rfl rfl ?_
  refine th_iload_n C dc_L_interrupt_3 rfl rfl ?_
  refine tq_callVm C (p_H_interrupt l hl t) ok_L_29 cl_0 (show 0 < 1 from by omega) rfl (Nat.le_of_ble_eq_true rfl) dc_L_interrupt_4 rfl (fun E J pE => ?_) (fun x J pk => ?_)
  · obtain ⟨⟨rfl, pE⟩, fE⟩ := pE
    refine th_catchX (name := "java/lang/IllegalArgumentException") (pre := []) C rfl (fun q h => nomatch h) (by decide) (by decide) (tb 265 (by decide +kernel) rfl) (tn 280 (by decide +kernel) rfl) (i := 3) (Or.inr ⟨3, dc_L_interrupt_12, rfl, rfl⟩) (by decide) (by simp) ?_
    refine th_iconst (v := 1) C dc_L_interrupt_13 th_c_1 ?_
    exact th_iret C hQ dc_L_interrupt_14 (by decide) (by decide) ⟨_, _, rfl, rfl, Or.inr ⟨th_l_1, pE⟩, fun t i k q => fE t i k (by omega)⟩
  · obtain ⟨⟨pc1, pa⟩, fJ⟩ := pk
    refine th_lst (mu := th_m J) (n := 0) C dc_L_interrupt_7 dc_L_interrupt_8 (show 0 < 1 from by omega) rfl (fun _ => rfl) (th_ixN th_l_0 (by decide) (show 0 < 1 from by omega)) ?_
    refine th_goto (tgt := 15) C dc_L_interrupt_9 (by decide) ?_
    refine th_iconst (v := 0) C dc_L_interrupt_15 th_c_0 ?_
    exact th_iret C hQ dc_L_interrupt_16 (by decide) (by decide) ⟨_, th_u J 17 0 0 x, rfl, rfl, Or.inl ⟨th_l_0, pc1, by rw [th_u_eq]; exact pa⟩, fun t i k q => (th_u_tag (by omega)).trans (fJ t i k (by omega))⟩

set_option maxRecDepth 100000 in
set_option maxHeartbeats 4000000 in
theorem q_slice (l : Launch) (hl : l.stackTraces = false) (n : Int32) : th_FW l yn_L_slice cb_L_slice 4 (some .int) [(0, 9, 12, 13)] { frames := 8, cells := 1, slots := 6, locals := 133 } [.inr (some (0, 0)), .inl n, .inr (some (17, 0))] (th_m th_I0) (th_ri (fun k J => ((k.toInt = 0 ∧ (1 ≤ n.toInt ∧ n.toInt ≤ 20) ∧ (J 17 0 0).toInt = 4) ∨ (k.toInt = 1 ∧ ¬ (1 ≤ n.toInt ∧ n.toInt ≤ 20))) ∧ ∀ t i k, 20 ≤ t → J t i k = th_I0 t i k)) := by
  refine th_ofW hl (by decide +kernel) (Nat.le_of_ble_eq_true rfl) (fun z C hQ => ?_)
  show th_G l z 4 0 [(0, .inr (some (0, 0))), (1, .inl n), (2, .inr (some (17, 0)))] [] (th_m th_I0) 0 0
  refine th_aload_n C dc_L_slice_0 rfl rfl ?_
  refine th_iconst (v := 0) C dc_L_slice_1 th_c_0 ?_
  refine th_aload_n C dc_L_slice_2 rfl rfl ?_
  refine th_iload_n C dc_L_slice_3 rfl rfl ?_
  refine tq_callVm C (p_H_slice l hl n) ok_L_32 cl_0 (show 0 < 1 from by omega) rfl (Nat.le_of_ble_eq_true rfl) dc_L_slice_4 rfl (fun E J pE => ?_) (fun x J pk => ?_)
  · obtain ⟨⟨rfl, pE⟩, fE⟩ := pE
    refine th_catchX (name := "java/lang/IllegalArgumentException") (pre := []) C rfl (fun q h => nomatch h) (by decide) (by decide) (tb 265 (by decide +kernel) rfl) (tn 280 (by decide +kernel) rfl) (i := 3) (Or.inr ⟨3, dc_L_slice_12, rfl, rfl⟩) (by decide) (by simp) ?_
    refine th_iconst (v := 1) C dc_L_slice_13 th_c_1 ?_
    exact th_iret C hQ dc_L_slice_14 (by decide) (by decide) ⟨_, _, rfl, rfl, Or.inr ⟨th_l_1, pE⟩, fun t i k q => fE t i k (by omega)⟩
  · obtain ⟨⟨pc1, pa⟩, fJ⟩ := pk
    refine th_lst (mu := th_m J) (n := 0) C dc_L_slice_7 dc_L_slice_8 (show 0 < 1 from by omega) rfl (fun _ => rfl) (th_ixN th_l_0 (by decide) (show 0 < 1 from by omega)) ?_
    refine th_goto (tgt := 15) C dc_L_slice_9 (by decide) ?_
    refine th_iconst (v := 0) C dc_L_slice_15 th_c_0 ?_
    exact th_iret C hQ dc_L_slice_16 (by decide) (by decide) ⟨_, th_u J 17 0 0 x, rfl, rfl, Or.inl ⟨th_l_0, pc1, by rw [th_u_eq]; exact pa⟩, fun t i k q => (th_u_tag (by omega)).trans (fJ t i k (by omega))⟩

set_option maxRecDepth 100000 in
set_option maxHeartbeats 4000000 in
theorem q_global (l : Launch) (hl : l.stackTraces = false) (s : Int32) (v : Int32) : th_FW l yn_L_global cb_L_global 5 (some .int) [(0, 10, 13, 13)] { frames := 9, cells := 1, slots := 6, locals := 155 } [.inr (some (0, 0)), .inl s, .inl v, .inr (some (17, 0))] (th_m th_I0) (th_ri (fun k J => ((k.toInt = 0 ∧ (0 ≤ s.toInt ∧ s.toInt ≤ 3) ∧ (J 17 0 0).toInt = 0) ∨ (k.toInt = 1 ∧ ¬ (0 ≤ s.toInt ∧ s.toInt ≤ 3))) ∧ ∀ t i k, 20 ≤ t → J t i k = th_I0 t i k)) := by
  refine th_ofW hl (by decide +kernel) (Nat.le_of_ble_eq_true rfl) (fun z C hQ => ?_)
  show th_G l z 5 0 [(0, .inr (some (0, 0))), (1, .inl s), (2, .inl v), (3, .inr (some (17, 0)))] [] (th_m th_I0) 0 0
  refine th_aload_n C dc_L_global_0 rfl rfl ?_
  refine th_iconst (v := 0) C dc_L_global_1 th_c_0 ?_
  refine th_aload_n C dc_L_global_2 rfl rfl ?_
  refine th_iload_n C dc_L_global_3 rfl rfl ?_
  refine th_iload_n C dc_L_global_4 rfl rfl ?_
  refine tq_callVm C (p_H_global l hl s v) ok_L_35 cl_0 (show 0 < 1 from by omega) rfl (Nat.le_of_ble_eq_true rfl) dc_L_global_5 rfl (fun E J pE => ?_) (fun x J pk => ?_)
  · obtain ⟨⟨rfl, pE⟩, fE⟩ := pE
    refine th_catchX (name := "java/lang/IllegalArgumentException") (pre := []) C rfl (fun q h => nomatch h) (by decide) (by decide) (tb 265 (by decide +kernel) rfl) (tn 280 (by decide +kernel) rfl) (i := 4) (Or.inl ⟨dc_L_global_13, rfl⟩) (by decide) (by simp) ?_
    refine th_iconst (v := 1) C dc_L_global_15 th_c_1 ?_
    exact th_iret C hQ dc_L_global_16 (by decide) (by decide) ⟨_, _, rfl, rfl, Or.inr ⟨th_l_1, pE⟩, fun t i k q => fE t i k (by omega)⟩
  · obtain ⟨⟨pc1, pa⟩, fJ⟩ := pk
    refine th_lst (mu := th_m J) (n := 0) C dc_L_global_8 dc_L_global_9 (show 0 < 1 from by omega) rfl (fun _ => rfl) (th_ixN th_l_0 (by decide) (show 0 < 1 from by omega)) ?_
    refine th_goto (tgt := 17) C dc_L_global_10 (by decide) ?_
    refine th_iconst (v := 0) C dc_L_global_17 th_c_0 ?_
    exact th_iret C hQ dc_L_global_18 (by decide) (by decide) ⟨_, th_u J 17 0 0 x, rfl, rfl, Or.inl ⟨th_l_0, pc1, by rw [th_u_eq]; exact pa⟩, fun t i k q => (th_u_tag (by omega)).trans (fJ t i k (by omega))⟩

set_option maxRecDepth 100000 in
set_option maxHeartbeats 4000000 in
theorem q_special (l : Launch) (hl : l.stackTraces = false) (t : Int32) (s : Int32) : th_FW l yn_L_special cb_L_special 5 (some .int) [(0, 10, 13, 13)] { frames := 9, cells := 2, slots := 12, locals := 154 } [.inr (some (0, 0)), .inl t, .inl s, .inr (some (17, 0))] (th_m th_I0) (th_ri (fun k J => ((k.toInt = 0 ∧ (0 ≤ t.toInt ∧ t.toInt ≤ 4 ∧ 0 ≤ s.toInt ∧ s.toInt ≤ 3) ∧ (J 17 0 0).toInt = 0) ∨ (k.toInt = 1 ∧ ¬ (0 ≤ t.toInt ∧ t.toInt ≤ 4 ∧ 0 ≤ s.toInt ∧ s.toInt ≤ 3))) ∧ ∀ t i k, 20 ≤ t → J t i k = th_I0 t i k)) := by
  refine th_ofW hl (by decide +kernel) (Nat.le_of_ble_eq_true rfl) (fun z C hQ => ?_)
  show th_G l z 5 0 [(0, .inr (some (0, 0))), (1, .inl t), (2, .inl s), (3, .inr (some (17, 0)))] [] (th_m th_I0) 0 0
  refine th_aload_n C dc_L_special_0 rfl rfl ?_
  refine th_iconst (v := 0) C dc_L_special_1 th_c_0 ?_
  refine th_aload_n C dc_L_special_2 rfl rfl ?_
  refine th_iload_n C dc_L_special_3 rfl rfl ?_
  refine th_iload_n C dc_L_special_4 rfl rfl ?_
  refine tq_callVm C (p_H_special l hl t s) ok_L_39 cl_0 (show 0 < 1 from by omega) rfl (Nat.le_of_ble_eq_true rfl) dc_L_special_5 rfl (fun E J pE => ?_) (fun x J pk => ?_)
  · obtain ⟨⟨rfl, pE⟩, fE⟩ := pE
    refine th_catchX (name := "java/lang/IllegalArgumentException") (pre := []) C rfl (fun q h => nomatch h) (by decide) (by decide) (tb 265 (by decide +kernel) rfl) (tn 280 (by decide +kernel) rfl) (i := 4) (Or.inl ⟨dc_L_special_13, rfl⟩) (by decide) (by simp) ?_
    refine th_iconst (v := 1) C dc_L_special_15 th_c_1 ?_
    exact th_iret C hQ dc_L_special_16 (by decide) (by decide) ⟨_, _, rfl, rfl, Or.inr ⟨th_l_1, pE⟩, fun t i k q => fE t i k (by omega)⟩
  · obtain ⟨⟨pc1, pa⟩, fJ⟩ := pk
    refine th_lst (mu := th_m J) (n := 0) C dc_L_special_8 dc_L_special_9 (show 0 < 1 from by omega) rfl (fun _ => rfl) (th_ixN th_l_0 (by decide) (show 0 < 1 from by omega)) ?_
    refine th_goto (tgt := 17) C dc_L_special_10 (by decide) ?_
    refine th_iconst (v := 0) C dc_L_special_17 th_c_0 ?_
    exact th_iret C hQ dc_L_special_18 (by decide) (by decide) ⟨_, th_u J 17 0 0 x, rfl, rfl, Or.inl ⟨th_l_0, pc1, by rw [th_u_eq]; exact pa⟩, fun t i k q => (th_u_tag (by omega)).trans (fJ t i k (by omega))⟩

set_option maxRecDepth 100000 in
set_option maxHeartbeats 4000000 in
theorem q_look (l : Launch) (hl : l.stackTraces = false) (t : Int32) (w : Int32) : th_FW l yn_L_look cb_L_look 5 (some .int) [(0, 10, 13, 13)] { frames := 9, cells := 2, slots := 12, locals := 155 } [.inr (some (0, 0)), .inl t, .inl w, .inr (some (17, 0))] (th_m th_I0) (th_ri (fun k J => ((k.toInt = 0 ∧ (0 ≤ t.toInt ∧ t.toInt ≤ 4 ∧ 0 ≤ w.toInt ∧ w.toInt ≤ 9) ∧ ((w.toInt = 6 ∧ (J 17 0 0).toInt = 24) ∨ (w.toInt ≠ 6 ∧ (J 17 0 0).toInt = 0))) ∨ (k.toInt = 1 ∧ ¬ (0 ≤ t.toInt ∧ t.toInt ≤ 4 ∧ 0 ≤ w.toInt ∧ w.toInt ≤ 9))) ∧ ∀ t i k, 20 ≤ t → J t i k = th_I0 t i k)) := by
  refine th_ofW hl (by decide +kernel) (Nat.le_of_ble_eq_true rfl) (fun z C hQ => ?_)
  show th_G l z 5 0 [(0, .inr (some (0, 0))), (1, .inl t), (2, .inl w), (3, .inr (some (17, 0)))] [] (th_m th_I0) 0 0
  refine th_aload_n C dc_L_look_0 rfl rfl ?_
  refine th_iconst (v := 0) C dc_L_look_1 th_c_0 ?_
  refine th_aload_n C dc_L_look_2 rfl rfl ?_
  refine th_iload_n C dc_L_look_3 rfl rfl ?_
  refine th_iload_n C dc_L_look_4 rfl rfl ?_
  refine tq_callVm C (p_H_look l hl t w) ok_L_42 cl_0 (show 0 < 1 from by omega) rfl (Nat.le_of_ble_eq_true rfl) dc_L_look_5 rfl (fun E J pE => ?_) (fun x J pk => ?_)
  · obtain ⟨⟨rfl, pE⟩, fE⟩ := pE
    refine th_catchX (name := "java/lang/IllegalArgumentException") (pre := []) C rfl (fun q h => nomatch h) (by decide) (by decide) (tb 265 (by decide +kernel) rfl) (tn 280 (by decide +kernel) rfl) (i := 4) (Or.inl ⟨dc_L_look_13, rfl⟩) (by decide) (by simp) ?_
    refine th_iconst (v := 1) C dc_L_look_15 th_c_1 ?_
    exact th_iret C hQ dc_L_look_16 (by decide) (by decide) ⟨_, _, rfl, rfl, Or.inr ⟨th_l_1, pE⟩, fun t i k q => fE t i k (by omega)⟩
  · obtain ⟨⟨pc1, pa⟩, fJ⟩ := pk
    refine th_lst (mu := th_m J) (n := 0) C dc_L_look_8 dc_L_look_9 (show 0 < 1 from by omega) rfl (fun _ => rfl) (th_ixN th_l_0 (by decide) (show 0 < 1 from by omega)) ?_
    refine th_goto (tgt := 17) C dc_L_look_10 (by decide) ?_
    refine th_iconst (v := 0) C dc_L_look_17 th_c_0 ?_
    exact th_iret C hQ dc_L_look_18 (by decide) (by decide) ⟨_, th_u J 17 0 0 x, rfl, rfl, Or.inl ⟨th_l_0, pc1, by rw [th_u_eq]; exact pa⟩, fun t i k q => (th_u_tag (by omega)).trans (fJ t i k (by omega))⟩

set_option maxRecDepth 100000 in
set_option maxHeartbeats 4000000 in
theorem q_lock (l : Launch) (hl : l.stackTraces = false) (m : Int32) (w : Int32) : th_FW l yn_L_lock cb_L_lock 5 (some .int) [(0, 10, 13, 13)] { frames := 9, cells := 2, slots := 12, locals := 154 } [.inr (some (0, 0)), .inl m, .inl w, .inr (some (17, 0))] (th_m th_I0) (th_ri (fun k J => ((k.toInt = 0 ∧ (0 ≤ m.toInt ∧ m.toInt ≤ 2 ∧ 0 ≤ w.toInt ∧ w.toInt ≤ 3) ∧ ((w.toInt = 0 ∧ (J 17 0 0).toInt = -1) ∨ (w.toInt ≠ 0 ∧ (J 17 0 0).toInt = 0))) ∨ (k.toInt = 1 ∧ ¬ (0 ≤ m.toInt ∧ m.toInt ≤ 2 ∧ 0 ≤ w.toInt ∧ w.toInt ≤ 3))) ∧ ∀ t i k, 20 ≤ t → J t i k = th_I0 t i k)) := by
  refine th_ofW hl (by decide +kernel) (Nat.le_of_ble_eq_true rfl) (fun z C hQ => ?_)
  show th_G l z 5 0 [(0, .inr (some (0, 0))), (1, .inl m), (2, .inl w), (3, .inr (some (17, 0)))] [] (th_m th_I0) 0 0
  refine th_aload_n C dc_L_lock_0 rfl rfl ?_
  refine th_iconst (v := 0) C dc_L_lock_1 th_c_0 ?_
  refine th_aload_n C dc_L_lock_2 rfl rfl ?_
  refine th_iload_n C dc_L_lock_3 rfl rfl ?_
  refine th_iload_n C dc_L_lock_4 rfl rfl ?_
  refine tq_callVm C (p_H_lock l hl m w) ok_L_45 cl_0 (show 0 < 1 from by omega) rfl (Nat.le_of_ble_eq_true rfl) dc_L_lock_5 rfl (fun E J pE => ?_) (fun x J pk => ?_)
  · obtain ⟨⟨rfl, pE⟩, fE⟩ := pE
    refine th_catchX (name := "java/lang/IllegalArgumentException") (pre := []) C rfl (fun q h => nomatch h) (by decide) (by decide) (tb 265 (by decide +kernel) rfl) (tn 280 (by decide +kernel) rfl) (i := 4) (Or.inl ⟨dc_L_lock_13, rfl⟩) (by decide) (by simp) ?_
    refine th_iconst (v := 1) C dc_L_lock_15 th_c_1 ?_
    exact th_iret C hQ dc_L_lock_16 (by decide) (by decide) ⟨_, _, rfl, rfl, Or.inr ⟨th_l_1, pE⟩, fun t i k q => fE t i k (by omega)⟩
  · obtain ⟨⟨pc1, pa⟩, fJ⟩ := pk
    refine th_lst (mu := th_m J) (n := 0) C dc_L_lock_8 dc_L_lock_9 (show 0 < 1 from by omega) rfl (fun _ => rfl) (th_ixN th_l_0 (by decide) (show 0 < 1 from by omega)) ?_
    refine th_goto (tgt := 17) C dc_L_lock_10 (by decide) ?_
    refine th_iconst (v := 0) C dc_L_lock_17 th_c_0 ?_
    exact th_iret C hQ dc_L_lock_18 (by decide) (by decide) ⟨_, th_u J 17 0 0 x, rfl, rfl, Or.inl ⟨th_l_0, pc1, by rw [th_u_eq]; exact pa⟩, fun t i k q => (th_u_tag (by omega)).trans (fJ t i k (by omega))⟩

set_option maxRecDepth 100000 in
set_option maxHeartbeats 4000000 in
theorem q_said (l : Launch) (hl : l.stackTraces = false) (k : Int32) : th_FW l yn_L_said cb_L_said 4 (some .int) [(0, 9, 12, 17)] { frames := 7, cells := 1, slots := 6, locals := 110 } [.inr (some (0, 0)), .inl k, .inr (some (17, 0))] (th_m th_I0) (th_ri (fun k J => ((k.toInt = 0 ∧ (False) ∧ True) ∨ (k.toInt = 1 ∧ ¬ (False))) ∧ ∀ t i k, 20 ≤ t → J t i k = th_I0 t i k)) := by
  refine th_ofW hl (by decide +kernel) (Nat.le_of_ble_eq_true rfl) (fun z C hQ => ?_)
  show th_G l z 4 0 [(0, .inr (some (0, 0))), (1, .inl k), (2, .inr (some (17, 0)))] [] (th_m th_I0) 0 0
  refine th_aload_n C dc_L_said_0 rfl rfl ?_
  refine th_iconst (v := 0) C dc_L_said_1 th_c_0 ?_
  refine th_aload_n C dc_L_said_2 rfl rfl ?_
  refine th_iload_n C dc_L_said_3 rfl rfl ?_
  refine tq_callVm C (p_H_said l hl k) ok_L_48 cl_0 (show 0 < 1 from by omega) rfl (Nat.le_of_ble_eq_true rfl) dc_L_said_4 rfl (fun E J pE => ?_) (fun x J pk => ?_)
  · obtain ⟨⟨rfl, pE⟩, fE⟩ := pE
    refine th_catchX (name := "java/lang/IndexOutOfBoundsException") (pre := []) C rfl (fun q h => nomatch h) (by decide) (by decide) (tb 267 (by decide +kernel) rfl) (tn 372 (by decide +kernel) rfl) (i := 3) (Or.inr ⟨3, dc_L_said_12, rfl, rfl⟩) (by decide) (by simp) ?_
    refine th_iconst (v := 1) C dc_L_said_13 th_c_1 ?_
    exact th_iret C hQ dc_L_said_14 (by decide) (by decide) ⟨_, _, rfl, rfl, Or.inr ⟨th_l_1, pE⟩, fun t i k q => fE t i k (by omega)⟩
  · obtain ⟨⟨pc1, pa⟩, fJ⟩ := pk
    exact pc1.elim

set_option maxRecDepth 100000 in
set_option maxHeartbeats 4000000 in
theorem q_count (l : Launch) (hl : l.stackTraces = false) (w : Int32) : th_FW l yn_L_count cb_L_count 4 (some .int) [(0, 9, 12, 13)] { frames := 7, cells := 1, slots := 6, locals := 110 } [.inr (some (0, 0)), .inl w, .inr (some (17, 0))] (th_m th_I0) (th_ri (fun k J => ((k.toInt = 0 ∧ (0 ≤ w.toInt ∧ w.toInt ≤ 7) ∧ ((w.toInt = 6 ∧ (J 17 0 0).toInt = -1) ∨ (w.toInt ≠ 6 ∧ (J 17 0 0).toInt = 0))) ∨ (k.toInt = 1 ∧ ¬ (0 ≤ w.toInt ∧ w.toInt ≤ 7))) ∧ ∀ t i k, 20 ≤ t → J t i k = th_I0 t i k)) := by
  refine th_ofW hl (by decide +kernel) (Nat.le_of_ble_eq_true rfl) (fun z C hQ => ?_)
  show th_G l z 4 0 [(0, .inr (some (0, 0))), (1, .inl w), (2, .inr (some (17, 0)))] [] (th_m th_I0) 0 0
  refine th_aload_n C dc_L_count_0 rfl rfl ?_
  refine th_iconst (v := 0) C dc_L_count_1 th_c_0 ?_
  refine th_aload_n C dc_L_count_2 rfl rfl ?_
  refine th_iload_n C dc_L_count_3 rfl rfl ?_
  refine tq_callVm C (p_H_count l hl w) ok_L_51 cl_0 (show 0 < 1 from by omega) rfl (Nat.le_of_ble_eq_true rfl) dc_L_count_4 rfl (fun E J pE => ?_) (fun x J pk => ?_)
  · obtain ⟨⟨rfl, pE⟩, fE⟩ := pE
    refine th_catchX (name := "java/lang/IllegalArgumentException") (pre := []) C rfl (fun q h => nomatch h) (by decide) (by decide) (tb 265 (by decide +kernel) rfl) (tn 280 (by decide +kernel) rfl) (i := 3) (Or.inr ⟨3, dc_L_count_12, rfl, rfl⟩) (by decide) (by simp) ?_
    refine th_iconst (v := 1) C dc_L_count_13 th_c_1 ?_
    exact th_iret C hQ dc_L_count_14 (by decide) (by decide) ⟨_, _, rfl, rfl, Or.inr ⟨th_l_1, pE⟩, fun t i k q => fE t i k (by omega)⟩
  · obtain ⟨⟨pc1, pa⟩, fJ⟩ := pk
    refine th_lst (mu := th_m J) (n := 0) C dc_L_count_7 dc_L_count_8 (show 0 < 1 from by omega) rfl (fun _ => rfl) (th_ixN th_l_0 (by decide) (show 0 < 1 from by omega)) ?_
    refine th_goto (tgt := 15) C dc_L_count_9 (by decide) ?_
    refine th_iconst (v := 0) C dc_L_count_15 th_c_0 ?_
    exact th_iret C hQ dc_L_count_16 (by decide) (by decide) ⟨_, th_u J 17 0 0 x, rfl, rfl, Or.inl ⟨th_l_0, pc1, by rw [th_u_eq]; exact pa⟩, fun t i k q => (th_u_tag (by omega)).trans (fJ t i k (by omega))⟩
end
section
abbrev cb_L_law : ByteArray := code
theorem th_of5 : ∀ L : Nat, L < 6 → (Int32.ofNat L).toInt = (L : Int) := by decide +kernel
theorem dc_L_law_0 : decode cb_L_law 0 = .ok (.new 8, 3) := by decide +kernel
theorem dc_L_law_3 : decode cb_L_law 3 = .ok (.dup, 1) := by decide +kernel
theorem dc_L_law_4 : decode cb_L_law 4 = .ok (.invokespecial 54, 3) := by decide +kernel
theorem dc_L_law_7 : decode cb_L_law 7 = .ok (.astore_n 1, 1) := by decide +kernel
theorem dc_L_law_8 : decode cb_L_law 8 = .ok (.new 55, 3) := by decide +kernel
theorem dc_L_law_11 : decode cb_L_law 11 = .ok (.dup, 1) := by decide +kernel
theorem dc_L_law_12 : decode cb_L_law 12 = .ok (.invokespecial 57, 3) := by decide +kernel
theorem dc_L_law_15 : decode cb_L_law 15 = .ok (.astore_n 2, 1) := by decide +kernel
theorem dc_L_law_16 : decode cb_L_law 16 = .ok (.iconst 1, 1) := by decide +kernel
theorem dc_L_law_17 : decode cb_L_law 17 = .ok (.newarray .long, 2) := by decide +kernel
theorem dc_L_law_19 : decode cb_L_law 19 = .ok (.astore_n 3, 1) := by decide +kernel
theorem dc_L_law_20 : decode cb_L_law 20 = .ok (.iconst 0, 1) := by decide +kernel
theorem dc_L_law_21 : decode cb_L_law 21 = .ok (.istore 4, 2) := by decide +kernel
theorem dc_L_law_23 : decode cb_L_law 23 = .ok (.iload 4, 2) := by decide +kernel
theorem dc_L_law_25 : decode cb_L_law 25 = .ok (.aload_n 0, 1) := by decide +kernel
theorem dc_L_law_26 : decode cb_L_law 26 = .ok (.arraylength, 1) := by decide +kernel
theorem dc_L_law_27 : decode cb_L_law 27 = .ok (.iconst 5, 1) := by decide +kernel
theorem dc_L_law_28 : decode cb_L_law 28 = .ok (.isub, 1) := by decide +kernel
theorem dc_L_law_29 : decode cb_L_law 29 = .ok (.if_icmp .gt 833, 3) := by decide +kernel
theorem dc_L_law_32 : decode cb_L_law 32 = .ok (.aload_n 0, 1) := by decide +kernel
theorem dc_L_law_33 : decode cb_L_law 33 = .ok (.iload 4, 2) := by decide +kernel
theorem dc_L_law_35 : decode cb_L_law 35 = .ok (.iaload, 1) := by decide +kernel
theorem dc_L_law_36 : decode cb_L_law 36 = .ok (.bipush 15, 2) := by decide +kernel
theorem dc_L_law_38 : decode cb_L_law 38 = .ok (.iand, 1) := by decide +kernel
theorem dc_L_law_39 : decode cb_L_law 39 = .ok (.tableswitch 817 0 11 #[61, 153, 209, 265, 321, 377, 433, 501, 569, 637, 705, 761], 61) := by decide +kernel
theorem dc_L_law_100 : decode cb_L_law 100 = .ok (.aload_n 1, 1) := by decide +kernel
theorem dc_L_law_101 : decode cb_L_law 101 = .ok (.aload_n 0, 1) := by decide +kernel
theorem dc_L_law_102 : decode cb_L_law 102 = .ok (.iload 4, 2) := by decide +kernel
theorem dc_L_law_104 : decode cb_L_law 104 = .ok (.iconst 1, 1) := by decide +kernel
theorem dc_L_law_105 : decode cb_L_law 105 = .ok (.iadd, 1) := by decide +kernel
theorem dc_L_law_106 : decode cb_L_law 106 = .ok (.iaload, 1) := by decide +kernel
theorem dc_L_law_107 : decode cb_L_law 107 = .ok (.aload_n 0, 1) := by decide +kernel
theorem dc_L_law_108 : decode cb_L_law 108 = .ok (.iload 4, 2) := by decide +kernel
theorem dc_L_law_110 : decode cb_L_law 110 = .ok (.iconst 2, 1) := by decide +kernel
theorem dc_L_law_111 : decode cb_L_law 111 = .ok (.iadd, 1) := by decide +kernel
theorem dc_L_law_112 : decode cb_L_law 112 = .ok (.iaload, 1) := by decide +kernel
theorem dc_L_law_113 : decode cb_L_law 113 = .ok (.aload_n 0, 1) := by decide +kernel
theorem dc_L_law_114 : decode cb_L_law 114 = .ok (.iload 4, 2) := by decide +kernel
theorem dc_L_law_116 : decode cb_L_law 116 = .ok (.iconst 3, 1) := by decide +kernel
theorem dc_L_law_117 : decode cb_L_law 117 = .ok (.iadd, 1) := by decide +kernel
theorem dc_L_law_118 : decode cb_L_law 118 = .ok (.iaload, 1) := by decide +kernel
theorem dc_L_law_119 : decode cb_L_law 119 = .ok (.aload_n 0, 1) := by decide +kernel
theorem dc_L_law_120 : decode cb_L_law 120 = .ok (.iload 4, 2) := by decide +kernel
theorem dc_L_law_122 : decode cb_L_law 122 = .ok (.iconst 4, 1) := by decide +kernel
theorem dc_L_law_123 : decode cb_L_law 123 = .ok (.iadd, 1) := by decide +kernel
theorem dc_L_law_124 : decode cb_L_law 124 = .ok (.iaload, 1) := by decide +kernel
theorem dc_L_law_125 : decode cb_L_law 125 = .ok (.aload_n 3, 1) := by decide +kernel
theorem dc_L_law_126 : decode cb_L_law 126 = .ok (.invokestatic 58, 3) := by decide +kernel
theorem dc_L_law_129 : decode cb_L_law 129 = .ok (.istore 5, 2) := by decide +kernel
theorem dc_L_law_131 : decode cb_L_law 131 = .ok (.aload_n 2, 1) := by decide +kernel
theorem dc_L_law_132 : decode cb_L_law 132 = .ok (.aload_n 0, 1) := by decide +kernel
theorem dc_L_law_133 : decode cb_L_law 133 = .ok (.iload 4, 2) := by decide +kernel
theorem dc_L_law_135 : decode cb_L_law 135 = .ok (.iconst 1, 1) := by decide +kernel
theorem dc_L_law_136 : decode cb_L_law 136 = .ok (.iadd, 1) := by decide +kernel
theorem dc_L_law_137 : decode cb_L_law 137 = .ok (.iaload, 1) := by decide +kernel
theorem dc_L_law_138 : decode cb_L_law 138 = .ok (.aload_n 0, 1) := by decide +kernel
theorem dc_L_law_139 : decode cb_L_law 139 = .ok (.iload 4, 2) := by decide +kernel
theorem dc_L_law_141 : decode cb_L_law 141 = .ok (.iconst 2, 1) := by decide +kernel
theorem dc_L_law_142 : decode cb_L_law 142 = .ok (.iadd, 1) := by decide +kernel
theorem dc_L_law_143 : decode cb_L_law 143 = .ok (.iaload, 1) := by decide +kernel
theorem dc_L_law_144 : decode cb_L_law 144 = .ok (.aload_n 0, 1) := by decide +kernel
theorem dc_L_law_145 : decode cb_L_law 145 = .ok (.iload 4, 2) := by decide +kernel
theorem dc_L_law_147 : decode cb_L_law 147 = .ok (.iconst 3, 1) := by decide +kernel
theorem dc_L_law_148 : decode cb_L_law 148 = .ok (.iadd, 1) := by decide +kernel
theorem dc_L_law_149 : decode cb_L_law 149 = .ok (.iaload, 1) := by decide +kernel
theorem dc_L_law_150 : decode cb_L_law 150 = .ok (.aload_n 0, 1) := by decide +kernel
theorem dc_L_law_151 : decode cb_L_law 151 = .ok (.iload 4, 2) := by decide +kernel
theorem dc_L_law_153 : decode cb_L_law 153 = .ok (.iconst 4, 1) := by decide +kernel
theorem dc_L_law_154 : decode cb_L_law 154 = .ok (.iadd, 1) := by decide +kernel
theorem dc_L_law_155 : decode cb_L_law 155 = .ok (.iaload, 1) := by decide +kernel
theorem dc_L_law_156 : decode cb_L_law 156 = .ok (.invokevirtual 63, 3) := by decide +kernel
theorem dc_L_law_159 : decode cb_L_law 159 = .ok (.istore 6, 2) := by decide +kernel
theorem dc_L_law_161 : decode cb_L_law 161 = .ok (.aload_n 2, 1) := by decide +kernel
theorem dc_L_law_162 : decode cb_L_law 162 = .ok (.invokevirtual 64, 3) := by decide +kernel
theorem dc_L_law_165 : decode cb_L_law 165 = .ok (.iload 5, 2) := by decide +kernel
theorem dc_L_law_167 : decode cb_L_law 167 = .ok (.if_icmp .eq 5, 3) := by decide +kernel
theorem dc_L_law_170 : decode cb_L_law 170 = .ok (.iconst 0, 1) := by decide +kernel
theorem dc_L_law_171 : decode cb_L_law 171 = .ok (.ireturn, 1) := by decide +kernel
theorem dc_L_law_172 : decode cb_L_law 172 = .ok (.iload 5, 2) := by decide +kernel
theorem dc_L_law_174 : decode cb_L_law 174 = .ok (.ifCond .ne 15, 3) := by decide +kernel
theorem dc_L_law_177 : decode cb_L_law 177 = .ok (.aload_n 3, 1) := by decide +kernel
theorem dc_L_law_178 : decode cb_L_law 178 = .ok (.iconst 0, 1) := by decide +kernel
theorem dc_L_law_179 : decode cb_L_law 179 = .ok (.laload, 1) := by decide +kernel
theorem dc_L_law_180 : decode cb_L_law 180 = .ok (.iload 6, 2) := by decide +kernel
theorem dc_L_law_182 : decode cb_L_law 182 = .ok (.i2l, 1) := by decide +kernel
theorem dc_L_law_183 : decode cb_L_law 183 = .ok (.lcmp, 1) := by decide +kernel
theorem dc_L_law_184 : decode cb_L_law 184 = .ok (.ifCond .eq 5, 3) := by decide +kernel
theorem dc_L_law_187 : decode cb_L_law 187 = .ok (.iconst 0, 1) := by decide +kernel
theorem dc_L_law_188 : decode cb_L_law 188 = .ok (.ireturn, 1) := by decide +kernel
theorem dc_L_law_189 : decode cb_L_law 189 = .ok (.goto 667, 3) := by decide +kernel
theorem dc_L_law_192 : decode cb_L_law 192 = .ok (.aload_n 1, 1) := by decide +kernel
theorem dc_L_law_193 : decode cb_L_law 193 = .ok (.aload_n 0, 1) := by decide +kernel
theorem dc_L_law_194 : decode cb_L_law 194 = .ok (.iload 4, 2) := by decide +kernel
theorem dc_L_law_196 : decode cb_L_law 196 = .ok (.iconst 1, 1) := by decide +kernel
theorem dc_L_law_197 : decode cb_L_law 197 = .ok (.iadd, 1) := by decide +kernel
theorem dc_L_law_198 : decode cb_L_law 198 = .ok (.iaload, 1) := by decide +kernel
theorem dc_L_law_199 : decode cb_L_law 199 = .ok (.aload_n 3, 1) := by decide +kernel
theorem dc_L_law_200 : decode cb_L_law 200 = .ok (.invokestatic 68, 3) := by decide +kernel
theorem dc_L_law_203 : decode cb_L_law 203 = .ok (.istore 5, 2) := by decide +kernel
theorem dc_L_law_205 : decode cb_L_law 205 = .ok (.aload_n 2, 1) := by decide +kernel
theorem dc_L_law_206 : decode cb_L_law 206 = .ok (.aload_n 0, 1) := by decide +kernel
theorem dc_L_law_207 : decode cb_L_law 207 = .ok (.iload 4, 2) := by decide +kernel
theorem dc_L_law_209 : decode cb_L_law 209 = .ok (.iconst 1, 1) := by decide +kernel
theorem dc_L_law_210 : decode cb_L_law 210 = .ok (.iadd, 1) := by decide +kernel
theorem dc_L_law_211 : decode cb_L_law 211 = .ok (.iaload, 1) := by decide +kernel
theorem dc_L_law_212 : decode cb_L_law 212 = .ok (.invokevirtual 71, 3) := by decide +kernel
theorem dc_L_law_215 : decode cb_L_law 215 = .ok (.istore 6, 2) := by decide +kernel
theorem dc_L_law_217 : decode cb_L_law 217 = .ok (.aload_n 2, 1) := by decide +kernel
theorem dc_L_law_218 : decode cb_L_law 218 = .ok (.invokevirtual 64, 3) := by decide +kernel
theorem dc_L_law_221 : decode cb_L_law 221 = .ok (.iload 5, 2) := by decide +kernel
theorem dc_L_law_223 : decode cb_L_law 223 = .ok (.if_icmp .eq 5, 3) := by decide +kernel
theorem dc_L_law_226 : decode cb_L_law 226 = .ok (.iconst 0, 1) := by decide +kernel
theorem dc_L_law_227 : decode cb_L_law 227 = .ok (.ireturn, 1) := by decide +kernel
theorem dc_L_law_228 : decode cb_L_law 228 = .ok (.iload 5, 2) := by decide +kernel
theorem dc_L_law_230 : decode cb_L_law 230 = .ok (.ifCond .ne 15, 3) := by decide +kernel
theorem dc_L_law_233 : decode cb_L_law 233 = .ok (.aload_n 3, 1) := by decide +kernel
theorem dc_L_law_234 : decode cb_L_law 234 = .ok (.iconst 0, 1) := by decide +kernel
theorem dc_L_law_235 : decode cb_L_law 235 = .ok (.laload, 1) := by decide +kernel
theorem dc_L_law_236 : decode cb_L_law 236 = .ok (.iload 6, 2) := by decide +kernel
theorem dc_L_law_238 : decode cb_L_law 238 = .ok (.i2l, 1) := by decide +kernel
theorem dc_L_law_239 : decode cb_L_law 239 = .ok (.lcmp, 1) := by decide +kernel
theorem dc_L_law_240 : decode cb_L_law 240 = .ok (.ifCond .eq 5, 3) := by decide +kernel
theorem dc_L_law_243 : decode cb_L_law 243 = .ok (.iconst 0, 1) := by decide +kernel
theorem dc_L_law_244 : decode cb_L_law 244 = .ok (.ireturn, 1) := by decide +kernel
theorem dc_L_law_245 : decode cb_L_law 245 = .ok (.goto 611, 3) := by decide +kernel
theorem dc_L_law_248 : decode cb_L_law 248 = .ok (.aload_n 1, 1) := by decide +kernel
theorem dc_L_law_249 : decode cb_L_law 249 = .ok (.aload_n 0, 1) := by decide +kernel
theorem dc_L_law_250 : decode cb_L_law 250 = .ok (.iload 4, 2) := by decide +kernel
theorem dc_L_law_252 : decode cb_L_law 252 = .ok (.iconst 1, 1) := by decide +kernel
theorem dc_L_law_253 : decode cb_L_law 253 = .ok (.iadd, 1) := by decide +kernel
theorem dc_L_law_254 : decode cb_L_law 254 = .ok (.iaload, 1) := by decide +kernel
theorem dc_L_law_255 : decode cb_L_law 255 = .ok (.aload_n 3, 1) := by decide +kernel
theorem dc_L_law_256 : decode cb_L_law 256 = .ok (.invokestatic 72, 3) := by decide +kernel
theorem dc_L_law_259 : decode cb_L_law 259 = .ok (.istore 5, 2) := by decide +kernel
theorem dc_L_law_261 : decode cb_L_law 261 = .ok (.aload_n 2, 1) := by decide +kernel
theorem dc_L_law_262 : decode cb_L_law 262 = .ok (.aload_n 0, 1) := by decide +kernel
theorem dc_L_law_263 : decode cb_L_law 263 = .ok (.iload 4, 2) := by decide +kernel
theorem dc_L_law_265 : decode cb_L_law 265 = .ok (.iconst 1, 1) := by decide +kernel
theorem dc_L_law_266 : decode cb_L_law 266 = .ok (.iadd, 1) := by decide +kernel
theorem dc_L_law_267 : decode cb_L_law 267 = .ok (.iaload, 1) := by decide +kernel
theorem dc_L_law_268 : decode cb_L_law 268 = .ok (.invokevirtual 74, 3) := by decide +kernel
theorem dc_L_law_271 : decode cb_L_law 271 = .ok (.istore 6, 2) := by decide +kernel
theorem dc_L_law_273 : decode cb_L_law 273 = .ok (.aload_n 2, 1) := by decide +kernel
theorem dc_L_law_274 : decode cb_L_law 274 = .ok (.invokevirtual 64, 3) := by decide +kernel
theorem dc_L_law_277 : decode cb_L_law 277 = .ok (.iload 5, 2) := by decide +kernel
theorem dc_L_law_279 : decode cb_L_law 279 = .ok (.if_icmp .eq 5, 3) := by decide +kernel
theorem dc_L_law_282 : decode cb_L_law 282 = .ok (.iconst 0, 1) := by decide +kernel
theorem dc_L_law_283 : decode cb_L_law 283 = .ok (.ireturn, 1) := by decide +kernel
theorem dc_L_law_284 : decode cb_L_law 284 = .ok (.iload 5, 2) := by decide +kernel
theorem dc_L_law_286 : decode cb_L_law 286 = .ok (.ifCond .ne 15, 3) := by decide +kernel
theorem dc_L_law_289 : decode cb_L_law 289 = .ok (.aload_n 3, 1) := by decide +kernel
theorem dc_L_law_290 : decode cb_L_law 290 = .ok (.iconst 0, 1) := by decide +kernel
theorem dc_L_law_291 : decode cb_L_law 291 = .ok (.laload, 1) := by decide +kernel
theorem dc_L_law_292 : decode cb_L_law 292 = .ok (.iload 6, 2) := by decide +kernel
theorem dc_L_law_294 : decode cb_L_law 294 = .ok (.i2l, 1) := by decide +kernel
theorem dc_L_law_295 : decode cb_L_law 295 = .ok (.lcmp, 1) := by decide +kernel
theorem dc_L_law_296 : decode cb_L_law 296 = .ok (.ifCond .eq 5, 3) := by decide +kernel
theorem dc_L_law_299 : decode cb_L_law 299 = .ok (.iconst 0, 1) := by decide +kernel
theorem dc_L_law_300 : decode cb_L_law 300 = .ok (.ireturn, 1) := by decide +kernel
theorem dc_L_law_301 : decode cb_L_law 301 = .ok (.goto 555, 3) := by decide +kernel
theorem dc_L_law_304 : decode cb_L_law 304 = .ok (.aload_n 1, 1) := by decide +kernel
theorem dc_L_law_305 : decode cb_L_law 305 = .ok (.aload_n 0, 1) := by decide +kernel
theorem dc_L_law_306 : decode cb_L_law 306 = .ok (.iload 4, 2) := by decide +kernel
theorem dc_L_law_308 : decode cb_L_law 308 = .ok (.iconst 1, 1) := by decide +kernel
theorem dc_L_law_309 : decode cb_L_law 309 = .ok (.iadd, 1) := by decide +kernel
theorem dc_L_law_310 : decode cb_L_law 310 = .ok (.iaload, 1) := by decide +kernel
theorem dc_L_law_311 : decode cb_L_law 311 = .ok (.aload_n 3, 1) := by decide +kernel
theorem dc_L_law_312 : decode cb_L_law 312 = .ok (.invokestatic 75, 3) := by decide +kernel
theorem dc_L_law_315 : decode cb_L_law 315 = .ok (.istore 5, 2) := by decide +kernel
theorem dc_L_law_317 : decode cb_L_law 317 = .ok (.aload_n 2, 1) := by decide +kernel
theorem dc_L_law_318 : decode cb_L_law 318 = .ok (.aload_n 0, 1) := by decide +kernel
theorem dc_L_law_319 : decode cb_L_law 319 = .ok (.iload 4, 2) := by decide +kernel
theorem dc_L_law_321 : decode cb_L_law 321 = .ok (.iconst 1, 1) := by decide +kernel
theorem dc_L_law_322 : decode cb_L_law 322 = .ok (.iadd, 1) := by decide +kernel
theorem dc_L_law_323 : decode cb_L_law 323 = .ok (.iaload, 1) := by decide +kernel
theorem dc_L_law_324 : decode cb_L_law 324 = .ok (.invokevirtual 77, 3) := by decide +kernel
theorem dc_L_law_327 : decode cb_L_law 327 = .ok (.istore 6, 2) := by decide +kernel
theorem dc_L_law_329 : decode cb_L_law 329 = .ok (.aload_n 2, 1) := by decide +kernel
theorem dc_L_law_330 : decode cb_L_law 330 = .ok (.invokevirtual 64, 3) := by decide +kernel
theorem dc_L_law_333 : decode cb_L_law 333 = .ok (.iload 5, 2) := by decide +kernel
theorem dc_L_law_335 : decode cb_L_law 335 = .ok (.if_icmp .eq 5, 3) := by decide +kernel
theorem dc_L_law_338 : decode cb_L_law 338 = .ok (.iconst 0, 1) := by decide +kernel
theorem dc_L_law_339 : decode cb_L_law 339 = .ok (.ireturn, 1) := by decide +kernel
theorem dc_L_law_340 : decode cb_L_law 340 = .ok (.iload 5, 2) := by decide +kernel
theorem dc_L_law_342 : decode cb_L_law 342 = .ok (.ifCond .ne 15, 3) := by decide +kernel
theorem dc_L_law_345 : decode cb_L_law 345 = .ok (.aload_n 3, 1) := by decide +kernel
theorem dc_L_law_346 : decode cb_L_law 346 = .ok (.iconst 0, 1) := by decide +kernel
theorem dc_L_law_347 : decode cb_L_law 347 = .ok (.laload, 1) := by decide +kernel
theorem dc_L_law_348 : decode cb_L_law 348 = .ok (.iload 6, 2) := by decide +kernel
theorem dc_L_law_350 : decode cb_L_law 350 = .ok (.i2l, 1) := by decide +kernel
theorem dc_L_law_351 : decode cb_L_law 351 = .ok (.lcmp, 1) := by decide +kernel
theorem dc_L_law_352 : decode cb_L_law 352 = .ok (.ifCond .eq 5, 3) := by decide +kernel
theorem dc_L_law_355 : decode cb_L_law 355 = .ok (.iconst 0, 1) := by decide +kernel
theorem dc_L_law_356 : decode cb_L_law 356 = .ok (.ireturn, 1) := by decide +kernel
theorem dc_L_law_357 : decode cb_L_law 357 = .ok (.goto 499, 3) := by decide +kernel
theorem dc_L_law_360 : decode cb_L_law 360 = .ok (.aload_n 1, 1) := by decide +kernel
theorem dc_L_law_361 : decode cb_L_law 361 = .ok (.aload_n 0, 1) := by decide +kernel
theorem dc_L_law_362 : decode cb_L_law 362 = .ok (.iload 4, 2) := by decide +kernel
theorem dc_L_law_364 : decode cb_L_law 364 = .ok (.iconst 1, 1) := by decide +kernel
theorem dc_L_law_365 : decode cb_L_law 365 = .ok (.iadd, 1) := by decide +kernel
theorem dc_L_law_366 : decode cb_L_law 366 = .ok (.iaload, 1) := by decide +kernel
theorem dc_L_law_367 : decode cb_L_law 367 = .ok (.aload_n 3, 1) := by decide +kernel
theorem dc_L_law_368 : decode cb_L_law 368 = .ok (.invokestatic 78, 3) := by decide +kernel
theorem dc_L_law_371 : decode cb_L_law 371 = .ok (.istore 5, 2) := by decide +kernel
theorem dc_L_law_373 : decode cb_L_law 373 = .ok (.aload_n 2, 1) := by decide +kernel
theorem dc_L_law_374 : decode cb_L_law 374 = .ok (.aload_n 0, 1) := by decide +kernel
theorem dc_L_law_375 : decode cb_L_law 375 = .ok (.iload 4, 2) := by decide +kernel
theorem dc_L_law_377 : decode cb_L_law 377 = .ok (.iconst 1, 1) := by decide +kernel
theorem dc_L_law_378 : decode cb_L_law 378 = .ok (.iadd, 1) := by decide +kernel
theorem dc_L_law_379 : decode cb_L_law 379 = .ok (.iaload, 1) := by decide +kernel
theorem dc_L_law_380 : decode cb_L_law 380 = .ok (.invokevirtual 80, 3) := by decide +kernel
theorem dc_L_law_383 : decode cb_L_law 383 = .ok (.istore 6, 2) := by decide +kernel
theorem dc_L_law_385 : decode cb_L_law 385 = .ok (.aload_n 2, 1) := by decide +kernel
theorem dc_L_law_386 : decode cb_L_law 386 = .ok (.invokevirtual 64, 3) := by decide +kernel
theorem dc_L_law_389 : decode cb_L_law 389 = .ok (.iload 5, 2) := by decide +kernel
theorem dc_L_law_391 : decode cb_L_law 391 = .ok (.if_icmp .eq 5, 3) := by decide +kernel
theorem dc_L_law_394 : decode cb_L_law 394 = .ok (.iconst 0, 1) := by decide +kernel
theorem dc_L_law_395 : decode cb_L_law 395 = .ok (.ireturn, 1) := by decide +kernel
theorem dc_L_law_396 : decode cb_L_law 396 = .ok (.iload 5, 2) := by decide +kernel
theorem dc_L_law_398 : decode cb_L_law 398 = .ok (.ifCond .ne 15, 3) := by decide +kernel
theorem dc_L_law_401 : decode cb_L_law 401 = .ok (.aload_n 3, 1) := by decide +kernel
theorem dc_L_law_402 : decode cb_L_law 402 = .ok (.iconst 0, 1) := by decide +kernel
theorem dc_L_law_403 : decode cb_L_law 403 = .ok (.laload, 1) := by decide +kernel
theorem dc_L_law_404 : decode cb_L_law 404 = .ok (.iload 6, 2) := by decide +kernel
theorem dc_L_law_406 : decode cb_L_law 406 = .ok (.i2l, 1) := by decide +kernel
theorem dc_L_law_407 : decode cb_L_law 407 = .ok (.lcmp, 1) := by decide +kernel
theorem dc_L_law_408 : decode cb_L_law 408 = .ok (.ifCond .eq 5, 3) := by decide +kernel
theorem dc_L_law_411 : decode cb_L_law 411 = .ok (.iconst 0, 1) := by decide +kernel
theorem dc_L_law_412 : decode cb_L_law 412 = .ok (.ireturn, 1) := by decide +kernel
theorem dc_L_law_413 : decode cb_L_law 413 = .ok (.goto 443, 3) := by decide +kernel
theorem dc_L_law_416 : decode cb_L_law 416 = .ok (.aload_n 1, 1) := by decide +kernel
theorem dc_L_law_417 : decode cb_L_law 417 = .ok (.aload_n 0, 1) := by decide +kernel
theorem dc_L_law_418 : decode cb_L_law 418 = .ok (.iload 4, 2) := by decide +kernel
theorem dc_L_law_420 : decode cb_L_law 420 = .ok (.iconst 1, 1) := by decide +kernel
theorem dc_L_law_421 : decode cb_L_law 421 = .ok (.iadd, 1) := by decide +kernel
theorem dc_L_law_422 : decode cb_L_law 422 = .ok (.iaload, 1) := by decide +kernel
theorem dc_L_law_423 : decode cb_L_law 423 = .ok (.aload_n 3, 1) := by decide +kernel
theorem dc_L_law_424 : decode cb_L_law 424 = .ok (.invokestatic 81, 3) := by decide +kernel
theorem dc_L_law_427 : decode cb_L_law 427 = .ok (.istore 5, 2) := by decide +kernel
theorem dc_L_law_429 : decode cb_L_law 429 = .ok (.aload_n 2, 1) := by decide +kernel
theorem dc_L_law_430 : decode cb_L_law 430 = .ok (.aload_n 0, 1) := by decide +kernel
theorem dc_L_law_431 : decode cb_L_law 431 = .ok (.iload 4, 2) := by decide +kernel
theorem dc_L_law_433 : decode cb_L_law 433 = .ok (.iconst 1, 1) := by decide +kernel
theorem dc_L_law_434 : decode cb_L_law 434 = .ok (.iadd, 1) := by decide +kernel
theorem dc_L_law_435 : decode cb_L_law 435 = .ok (.iaload, 1) := by decide +kernel
theorem dc_L_law_436 : decode cb_L_law 436 = .ok (.invokevirtual 83, 3) := by decide +kernel
theorem dc_L_law_439 : decode cb_L_law 439 = .ok (.istore 6, 2) := by decide +kernel
theorem dc_L_law_441 : decode cb_L_law 441 = .ok (.aload_n 2, 1) := by decide +kernel
theorem dc_L_law_442 : decode cb_L_law 442 = .ok (.invokevirtual 64, 3) := by decide +kernel
theorem dc_L_law_445 : decode cb_L_law 445 = .ok (.iload 5, 2) := by decide +kernel
theorem dc_L_law_447 : decode cb_L_law 447 = .ok (.if_icmp .eq 5, 3) := by decide +kernel
theorem dc_L_law_450 : decode cb_L_law 450 = .ok (.iconst 0, 1) := by decide +kernel
theorem dc_L_law_451 : decode cb_L_law 451 = .ok (.ireturn, 1) := by decide +kernel
theorem dc_L_law_452 : decode cb_L_law 452 = .ok (.iload 5, 2) := by decide +kernel
theorem dc_L_law_454 : decode cb_L_law 454 = .ok (.ifCond .ne 15, 3) := by decide +kernel
theorem dc_L_law_457 : decode cb_L_law 457 = .ok (.aload_n 3, 1) := by decide +kernel
theorem dc_L_law_458 : decode cb_L_law 458 = .ok (.iconst 0, 1) := by decide +kernel
theorem dc_L_law_459 : decode cb_L_law 459 = .ok (.laload, 1) := by decide +kernel
theorem dc_L_law_460 : decode cb_L_law 460 = .ok (.iload 6, 2) := by decide +kernel
theorem dc_L_law_462 : decode cb_L_law 462 = .ok (.i2l, 1) := by decide +kernel
theorem dc_L_law_463 : decode cb_L_law 463 = .ok (.lcmp, 1) := by decide +kernel
theorem dc_L_law_464 : decode cb_L_law 464 = .ok (.ifCond .eq 5, 3) := by decide +kernel
theorem dc_L_law_467 : decode cb_L_law 467 = .ok (.iconst 0, 1) := by decide +kernel
theorem dc_L_law_468 : decode cb_L_law 468 = .ok (.ireturn, 1) := by decide +kernel
theorem dc_L_law_469 : decode cb_L_law 469 = .ok (.goto 387, 3) := by decide +kernel
theorem dc_L_law_472 : decode cb_L_law 472 = .ok (.aload_n 1, 1) := by decide +kernel
theorem dc_L_law_473 : decode cb_L_law 473 = .ok (.aload_n 0, 1) := by decide +kernel
theorem dc_L_law_474 : decode cb_L_law 474 = .ok (.iload 4, 2) := by decide +kernel
theorem dc_L_law_476 : decode cb_L_law 476 = .ok (.iconst 1, 1) := by decide +kernel
theorem dc_L_law_477 : decode cb_L_law 477 = .ok (.iadd, 1) := by decide +kernel
theorem dc_L_law_478 : decode cb_L_law 478 = .ok (.iaload, 1) := by decide +kernel
theorem dc_L_law_479 : decode cb_L_law 479 = .ok (.aload_n 0, 1) := by decide +kernel
theorem dc_L_law_480 : decode cb_L_law 480 = .ok (.iload 4, 2) := by decide +kernel
theorem dc_L_law_482 : decode cb_L_law 482 = .ok (.iconst 2, 1) := by decide +kernel
theorem dc_L_law_483 : decode cb_L_law 483 = .ok (.iadd, 1) := by decide +kernel
theorem dc_L_law_484 : decode cb_L_law 484 = .ok (.iaload, 1) := by decide +kernel
theorem dc_L_law_485 : decode cb_L_law 485 = .ok (.aload_n 3, 1) := by decide +kernel
theorem dc_L_law_486 : decode cb_L_law 486 = .ok (.invokestatic 84, 3) := by decide +kernel
theorem dc_L_law_489 : decode cb_L_law 489 = .ok (.istore 5, 2) := by decide +kernel
theorem dc_L_law_491 : decode cb_L_law 491 = .ok (.aload_n 2, 1) := by decide +kernel
theorem dc_L_law_492 : decode cb_L_law 492 = .ok (.aload_n 0, 1) := by decide +kernel
theorem dc_L_law_493 : decode cb_L_law 493 = .ok (.iload 4, 2) := by decide +kernel
theorem dc_L_law_495 : decode cb_L_law 495 = .ok (.iconst 1, 1) := by decide +kernel
theorem dc_L_law_496 : decode cb_L_law 496 = .ok (.iadd, 1) := by decide +kernel
theorem dc_L_law_497 : decode cb_L_law 497 = .ok (.iaload, 1) := by decide +kernel
theorem dc_L_law_498 : decode cb_L_law 498 = .ok (.aload_n 0, 1) := by decide +kernel
theorem dc_L_law_499 : decode cb_L_law 499 = .ok (.iload 4, 2) := by decide +kernel
theorem dc_L_law_501 : decode cb_L_law 501 = .ok (.iconst 2, 1) := by decide +kernel
theorem dc_L_law_502 : decode cb_L_law 502 = .ok (.iadd, 1) := by decide +kernel
theorem dc_L_law_503 : decode cb_L_law 503 = .ok (.iaload, 1) := by decide +kernel
theorem dc_L_law_504 : decode cb_L_law 504 = .ok (.invokevirtual 87, 3) := by decide +kernel
theorem dc_L_law_507 : decode cb_L_law 507 = .ok (.istore 6, 2) := by decide +kernel
theorem dc_L_law_509 : decode cb_L_law 509 = .ok (.aload_n 2, 1) := by decide +kernel
theorem dc_L_law_510 : decode cb_L_law 510 = .ok (.invokevirtual 64, 3) := by decide +kernel
theorem dc_L_law_513 : decode cb_L_law 513 = .ok (.iload 5, 2) := by decide +kernel
theorem dc_L_law_515 : decode cb_L_law 515 = .ok (.if_icmp .eq 5, 3) := by decide +kernel
theorem dc_L_law_518 : decode cb_L_law 518 = .ok (.iconst 0, 1) := by decide +kernel
theorem dc_L_law_519 : decode cb_L_law 519 = .ok (.ireturn, 1) := by decide +kernel
theorem dc_L_law_520 : decode cb_L_law 520 = .ok (.iload 5, 2) := by decide +kernel
theorem dc_L_law_522 : decode cb_L_law 522 = .ok (.ifCond .ne 15, 3) := by decide +kernel
theorem dc_L_law_525 : decode cb_L_law 525 = .ok (.aload_n 3, 1) := by decide +kernel
theorem dc_L_law_526 : decode cb_L_law 526 = .ok (.iconst 0, 1) := by decide +kernel
theorem dc_L_law_527 : decode cb_L_law 527 = .ok (.laload, 1) := by decide +kernel
theorem dc_L_law_528 : decode cb_L_law 528 = .ok (.iload 6, 2) := by decide +kernel
theorem dc_L_law_530 : decode cb_L_law 530 = .ok (.i2l, 1) := by decide +kernel
theorem dc_L_law_531 : decode cb_L_law 531 = .ok (.lcmp, 1) := by decide +kernel
theorem dc_L_law_532 : decode cb_L_law 532 = .ok (.ifCond .eq 5, 3) := by decide +kernel
theorem dc_L_law_535 : decode cb_L_law 535 = .ok (.iconst 0, 1) := by decide +kernel
theorem dc_L_law_536 : decode cb_L_law 536 = .ok (.ireturn, 1) := by decide +kernel
theorem dc_L_law_537 : decode cb_L_law 537 = .ok (.goto 319, 3) := by decide +kernel
theorem dc_L_law_540 : decode cb_L_law 540 = .ok (.aload_n 1, 1) := by decide +kernel
theorem dc_L_law_541 : decode cb_L_law 541 = .ok (.aload_n 0, 1) := by decide +kernel
theorem dc_L_law_542 : decode cb_L_law 542 = .ok (.iload 4, 2) := by decide +kernel
theorem dc_L_law_544 : decode cb_L_law 544 = .ok (.iconst 1, 1) := by decide +kernel
theorem dc_L_law_545 : decode cb_L_law 545 = .ok (.iadd, 1) := by decide +kernel
theorem dc_L_law_546 : decode cb_L_law 546 = .ok (.iaload, 1) := by decide +kernel
theorem dc_L_law_547 : decode cb_L_law 547 = .ok (.aload_n 0, 1) := by decide +kernel
theorem dc_L_law_548 : decode cb_L_law 548 = .ok (.iload 4, 2) := by decide +kernel
theorem dc_L_law_550 : decode cb_L_law 550 = .ok (.iconst 2, 1) := by decide +kernel
theorem dc_L_law_551 : decode cb_L_law 551 = .ok (.iadd, 1) := by decide +kernel
theorem dc_L_law_552 : decode cb_L_law 552 = .ok (.iaload, 1) := by decide +kernel
theorem dc_L_law_553 : decode cb_L_law 553 = .ok (.aload_n 3, 1) := by decide +kernel
theorem dc_L_law_554 : decode cb_L_law 554 = .ok (.invokestatic 88, 3) := by decide +kernel
theorem dc_L_law_557 : decode cb_L_law 557 = .ok (.istore 5, 2) := by decide +kernel
theorem dc_L_law_559 : decode cb_L_law 559 = .ok (.aload_n 2, 1) := by decide +kernel
theorem dc_L_law_560 : decode cb_L_law 560 = .ok (.aload_n 0, 1) := by decide +kernel
theorem dc_L_law_561 : decode cb_L_law 561 = .ok (.iload 4, 2) := by decide +kernel
theorem dc_L_law_563 : decode cb_L_law 563 = .ok (.iconst 1, 1) := by decide +kernel
theorem dc_L_law_564 : decode cb_L_law 564 = .ok (.iadd, 1) := by decide +kernel
theorem dc_L_law_565 : decode cb_L_law 565 = .ok (.iaload, 1) := by decide +kernel
theorem dc_L_law_566 : decode cb_L_law 566 = .ok (.aload_n 0, 1) := by decide +kernel
theorem dc_L_law_567 : decode cb_L_law 567 = .ok (.iload 4, 2) := by decide +kernel
theorem dc_L_law_569 : decode cb_L_law 569 = .ok (.iconst 2, 1) := by decide +kernel
theorem dc_L_law_570 : decode cb_L_law 570 = .ok (.iadd, 1) := by decide +kernel
theorem dc_L_law_571 : decode cb_L_law 571 = .ok (.iaload, 1) := by decide +kernel
theorem dc_L_law_572 : decode cb_L_law 572 = .ok (.invokevirtual 90, 3) := by decide +kernel
theorem dc_L_law_575 : decode cb_L_law 575 = .ok (.istore 6, 2) := by decide +kernel
theorem dc_L_law_577 : decode cb_L_law 577 = .ok (.aload_n 2, 1) := by decide +kernel
theorem dc_L_law_578 : decode cb_L_law 578 = .ok (.invokevirtual 64, 3) := by decide +kernel
theorem dc_L_law_581 : decode cb_L_law 581 = .ok (.iload 5, 2) := by decide +kernel
theorem dc_L_law_583 : decode cb_L_law 583 = .ok (.if_icmp .eq 5, 3) := by decide +kernel
theorem dc_L_law_586 : decode cb_L_law 586 = .ok (.iconst 0, 1) := by decide +kernel
theorem dc_L_law_587 : decode cb_L_law 587 = .ok (.ireturn, 1) := by decide +kernel
theorem dc_L_law_588 : decode cb_L_law 588 = .ok (.iload 5, 2) := by decide +kernel
theorem dc_L_law_590 : decode cb_L_law 590 = .ok (.ifCond .ne 15, 3) := by decide +kernel
theorem dc_L_law_593 : decode cb_L_law 593 = .ok (.aload_n 3, 1) := by decide +kernel
theorem dc_L_law_594 : decode cb_L_law 594 = .ok (.iconst 0, 1) := by decide +kernel
theorem dc_L_law_595 : decode cb_L_law 595 = .ok (.laload, 1) := by decide +kernel
theorem dc_L_law_596 : decode cb_L_law 596 = .ok (.iload 6, 2) := by decide +kernel
theorem dc_L_law_598 : decode cb_L_law 598 = .ok (.i2l, 1) := by decide +kernel
theorem dc_L_law_599 : decode cb_L_law 599 = .ok (.lcmp, 1) := by decide +kernel
theorem dc_L_law_600 : decode cb_L_law 600 = .ok (.ifCond .eq 5, 3) := by decide +kernel
theorem dc_L_law_603 : decode cb_L_law 603 = .ok (.iconst 0, 1) := by decide +kernel
theorem dc_L_law_604 : decode cb_L_law 604 = .ok (.ireturn, 1) := by decide +kernel
theorem dc_L_law_605 : decode cb_L_law 605 = .ok (.goto 251, 3) := by decide +kernel
theorem dc_L_law_608 : decode cb_L_law 608 = .ok (.aload_n 1, 1) := by decide +kernel
theorem dc_L_law_609 : decode cb_L_law 609 = .ok (.aload_n 0, 1) := by decide +kernel
theorem dc_L_law_610 : decode cb_L_law 610 = .ok (.iload 4, 2) := by decide +kernel
theorem dc_L_law_612 : decode cb_L_law 612 = .ok (.iconst 1, 1) := by decide +kernel
theorem dc_L_law_613 : decode cb_L_law 613 = .ok (.iadd, 1) := by decide +kernel
theorem dc_L_law_614 : decode cb_L_law 614 = .ok (.iaload, 1) := by decide +kernel
theorem dc_L_law_615 : decode cb_L_law 615 = .ok (.aload_n 0, 1) := by decide +kernel
theorem dc_L_law_616 : decode cb_L_law 616 = .ok (.iload 4, 2) := by decide +kernel
theorem dc_L_law_618 : decode cb_L_law 618 = .ok (.iconst 2, 1) := by decide +kernel
theorem dc_L_law_619 : decode cb_L_law 619 = .ok (.iadd, 1) := by decide +kernel
theorem dc_L_law_620 : decode cb_L_law 620 = .ok (.iaload, 1) := by decide +kernel
theorem dc_L_law_621 : decode cb_L_law 621 = .ok (.aload_n 3, 1) := by decide +kernel
theorem dc_L_law_622 : decode cb_L_law 622 = .ok (.invokestatic 91, 3) := by decide +kernel
theorem dc_L_law_625 : decode cb_L_law 625 = .ok (.istore 5, 2) := by decide +kernel
theorem dc_L_law_627 : decode cb_L_law 627 = .ok (.aload_n 2, 1) := by decide +kernel
theorem dc_L_law_628 : decode cb_L_law 628 = .ok (.aload_n 0, 1) := by decide +kernel
theorem dc_L_law_629 : decode cb_L_law 629 = .ok (.iload 4, 2) := by decide +kernel
theorem dc_L_law_631 : decode cb_L_law 631 = .ok (.iconst 1, 1) := by decide +kernel
theorem dc_L_law_632 : decode cb_L_law 632 = .ok (.iadd, 1) := by decide +kernel
theorem dc_L_law_633 : decode cb_L_law 633 = .ok (.iaload, 1) := by decide +kernel
theorem dc_L_law_634 : decode cb_L_law 634 = .ok (.aload_n 0, 1) := by decide +kernel
theorem dc_L_law_635 : decode cb_L_law 635 = .ok (.iload 4, 2) := by decide +kernel
theorem dc_L_law_637 : decode cb_L_law 637 = .ok (.iconst 2, 1) := by decide +kernel
theorem dc_L_law_638 : decode cb_L_law 638 = .ok (.iadd, 1) := by decide +kernel
theorem dc_L_law_639 : decode cb_L_law 639 = .ok (.iaload, 1) := by decide +kernel
theorem dc_L_law_640 : decode cb_L_law 640 = .ok (.invokevirtual 93, 3) := by decide +kernel
theorem dc_L_law_643 : decode cb_L_law 643 = .ok (.istore 6, 2) := by decide +kernel
theorem dc_L_law_645 : decode cb_L_law 645 = .ok (.aload_n 2, 1) := by decide +kernel
theorem dc_L_law_646 : decode cb_L_law 646 = .ok (.invokevirtual 64, 3) := by decide +kernel
theorem dc_L_law_649 : decode cb_L_law 649 = .ok (.iload 5, 2) := by decide +kernel
theorem dc_L_law_651 : decode cb_L_law 651 = .ok (.if_icmp .eq 5, 3) := by decide +kernel
theorem dc_L_law_654 : decode cb_L_law 654 = .ok (.iconst 0, 1) := by decide +kernel
theorem dc_L_law_655 : decode cb_L_law 655 = .ok (.ireturn, 1) := by decide +kernel
theorem dc_L_law_656 : decode cb_L_law 656 = .ok (.iload 5, 2) := by decide +kernel
theorem dc_L_law_658 : decode cb_L_law 658 = .ok (.ifCond .ne 15, 3) := by decide +kernel
theorem dc_L_law_661 : decode cb_L_law 661 = .ok (.aload_n 3, 1) := by decide +kernel
theorem dc_L_law_662 : decode cb_L_law 662 = .ok (.iconst 0, 1) := by decide +kernel
theorem dc_L_law_663 : decode cb_L_law 663 = .ok (.laload, 1) := by decide +kernel
theorem dc_L_law_664 : decode cb_L_law 664 = .ok (.iload 6, 2) := by decide +kernel
theorem dc_L_law_666 : decode cb_L_law 666 = .ok (.i2l, 1) := by decide +kernel
theorem dc_L_law_667 : decode cb_L_law 667 = .ok (.lcmp, 1) := by decide +kernel
theorem dc_L_law_668 : decode cb_L_law 668 = .ok (.ifCond .eq 5, 3) := by decide +kernel
theorem dc_L_law_671 : decode cb_L_law 671 = .ok (.iconst 0, 1) := by decide +kernel
theorem dc_L_law_672 : decode cb_L_law 672 = .ok (.ireturn, 1) := by decide +kernel
theorem dc_L_law_673 : decode cb_L_law 673 = .ok (.goto 183, 3) := by decide +kernel
theorem dc_L_law_676 : decode cb_L_law 676 = .ok (.aload_n 1, 1) := by decide +kernel
theorem dc_L_law_677 : decode cb_L_law 677 = .ok (.aload_n 0, 1) := by decide +kernel
theorem dc_L_law_678 : decode cb_L_law 678 = .ok (.iload 4, 2) := by decide +kernel
theorem dc_L_law_680 : decode cb_L_law 680 = .ok (.iconst 1, 1) := by decide +kernel
theorem dc_L_law_681 : decode cb_L_law 681 = .ok (.iadd, 1) := by decide +kernel
theorem dc_L_law_682 : decode cb_L_law 682 = .ok (.iaload, 1) := by decide +kernel
theorem dc_L_law_683 : decode cb_L_law 683 = .ok (.aload_n 0, 1) := by decide +kernel
theorem dc_L_law_684 : decode cb_L_law 684 = .ok (.iload 4, 2) := by decide +kernel
theorem dc_L_law_686 : decode cb_L_law 686 = .ok (.iconst 2, 1) := by decide +kernel
theorem dc_L_law_687 : decode cb_L_law 687 = .ok (.iadd, 1) := by decide +kernel
theorem dc_L_law_688 : decode cb_L_law 688 = .ok (.iaload, 1) := by decide +kernel
theorem dc_L_law_689 : decode cb_L_law 689 = .ok (.aload_n 3, 1) := by decide +kernel
theorem dc_L_law_690 : decode cb_L_law 690 = .ok (.invokestatic 94, 3) := by decide +kernel
theorem dc_L_law_693 : decode cb_L_law 693 = .ok (.istore 5, 2) := by decide +kernel
theorem dc_L_law_695 : decode cb_L_law 695 = .ok (.aload_n 2, 1) := by decide +kernel
theorem dc_L_law_696 : decode cb_L_law 696 = .ok (.aload_n 0, 1) := by decide +kernel
theorem dc_L_law_697 : decode cb_L_law 697 = .ok (.iload 4, 2) := by decide +kernel
theorem dc_L_law_699 : decode cb_L_law 699 = .ok (.iconst 1, 1) := by decide +kernel
theorem dc_L_law_700 : decode cb_L_law 700 = .ok (.iadd, 1) := by decide +kernel
theorem dc_L_law_701 : decode cb_L_law 701 = .ok (.iaload, 1) := by decide +kernel
theorem dc_L_law_702 : decode cb_L_law 702 = .ok (.aload_n 0, 1) := by decide +kernel
theorem dc_L_law_703 : decode cb_L_law 703 = .ok (.iload 4, 2) := by decide +kernel
theorem dc_L_law_705 : decode cb_L_law 705 = .ok (.iconst 2, 1) := by decide +kernel
theorem dc_L_law_706 : decode cb_L_law 706 = .ok (.iadd, 1) := by decide +kernel
theorem dc_L_law_707 : decode cb_L_law 707 = .ok (.iaload, 1) := by decide +kernel
theorem dc_L_law_708 : decode cb_L_law 708 = .ok (.invokevirtual 96, 3) := by decide +kernel
theorem dc_L_law_711 : decode cb_L_law 711 = .ok (.istore 6, 2) := by decide +kernel
theorem dc_L_law_713 : decode cb_L_law 713 = .ok (.aload_n 2, 1) := by decide +kernel
theorem dc_L_law_714 : decode cb_L_law 714 = .ok (.invokevirtual 64, 3) := by decide +kernel
theorem dc_L_law_717 : decode cb_L_law 717 = .ok (.iload 5, 2) := by decide +kernel
theorem dc_L_law_719 : decode cb_L_law 719 = .ok (.if_icmp .eq 5, 3) := by decide +kernel
theorem dc_L_law_722 : decode cb_L_law 722 = .ok (.iconst 0, 1) := by decide +kernel
theorem dc_L_law_723 : decode cb_L_law 723 = .ok (.ireturn, 1) := by decide +kernel
theorem dc_L_law_724 : decode cb_L_law 724 = .ok (.iload 5, 2) := by decide +kernel
theorem dc_L_law_726 : decode cb_L_law 726 = .ok (.ifCond .ne 15, 3) := by decide +kernel
theorem dc_L_law_729 : decode cb_L_law 729 = .ok (.aload_n 3, 1) := by decide +kernel
theorem dc_L_law_730 : decode cb_L_law 730 = .ok (.iconst 0, 1) := by decide +kernel
theorem dc_L_law_731 : decode cb_L_law 731 = .ok (.laload, 1) := by decide +kernel
theorem dc_L_law_732 : decode cb_L_law 732 = .ok (.iload 6, 2) := by decide +kernel
theorem dc_L_law_734 : decode cb_L_law 734 = .ok (.i2l, 1) := by decide +kernel
theorem dc_L_law_735 : decode cb_L_law 735 = .ok (.lcmp, 1) := by decide +kernel
theorem dc_L_law_736 : decode cb_L_law 736 = .ok (.ifCond .eq 5, 3) := by decide +kernel
theorem dc_L_law_739 : decode cb_L_law 739 = .ok (.iconst 0, 1) := by decide +kernel
theorem dc_L_law_740 : decode cb_L_law 740 = .ok (.ireturn, 1) := by decide +kernel
theorem dc_L_law_741 : decode cb_L_law 741 = .ok (.goto 115, 3) := by decide +kernel
theorem dc_L_law_744 : decode cb_L_law 744 = .ok (.aload_n 1, 1) := by decide +kernel
theorem dc_L_law_745 : decode cb_L_law 745 = .ok (.aload_n 0, 1) := by decide +kernel
theorem dc_L_law_746 : decode cb_L_law 746 = .ok (.iload 4, 2) := by decide +kernel
theorem dc_L_law_748 : decode cb_L_law 748 = .ok (.iconst 1, 1) := by decide +kernel
theorem dc_L_law_749 : decode cb_L_law 749 = .ok (.iadd, 1) := by decide +kernel
theorem dc_L_law_750 : decode cb_L_law 750 = .ok (.iaload, 1) := by decide +kernel
theorem dc_L_law_751 : decode cb_L_law 751 = .ok (.aload_n 3, 1) := by decide +kernel
theorem dc_L_law_752 : decode cb_L_law 752 = .ok (.invokestatic 97, 3) := by decide +kernel
theorem dc_L_law_755 : decode cb_L_law 755 = .ok (.istore 5, 2) := by decide +kernel
theorem dc_L_law_757 : decode cb_L_law 757 = .ok (.aload_n 2, 1) := by decide +kernel
theorem dc_L_law_758 : decode cb_L_law 758 = .ok (.aload_n 0, 1) := by decide +kernel
theorem dc_L_law_759 : decode cb_L_law 759 = .ok (.iload 4, 2) := by decide +kernel
theorem dc_L_law_761 : decode cb_L_law 761 = .ok (.iconst 1, 1) := by decide +kernel
theorem dc_L_law_762 : decode cb_L_law 762 = .ok (.iadd, 1) := by decide +kernel
theorem dc_L_law_763 : decode cb_L_law 763 = .ok (.iaload, 1) := by decide +kernel
theorem dc_L_law_764 : decode cb_L_law 764 = .ok (.invokevirtual 99, 3) := by decide +kernel
theorem dc_L_law_767 : decode cb_L_law 767 = .ok (.istore 6, 2) := by decide +kernel
theorem dc_L_law_769 : decode cb_L_law 769 = .ok (.aload_n 2, 1) := by decide +kernel
theorem dc_L_law_770 : decode cb_L_law 770 = .ok (.invokevirtual 64, 3) := by decide +kernel
theorem dc_L_law_773 : decode cb_L_law 773 = .ok (.iload 5, 2) := by decide +kernel
theorem dc_L_law_775 : decode cb_L_law 775 = .ok (.if_icmp .eq 5, 3) := by decide +kernel
theorem dc_L_law_778 : decode cb_L_law 778 = .ok (.iconst 0, 1) := by decide +kernel
theorem dc_L_law_779 : decode cb_L_law 779 = .ok (.ireturn, 1) := by decide +kernel
theorem dc_L_law_780 : decode cb_L_law 780 = .ok (.iload 5, 2) := by decide +kernel
theorem dc_L_law_782 : decode cb_L_law 782 = .ok (.ifCond .ne 15, 3) := by decide +kernel
theorem dc_L_law_785 : decode cb_L_law 785 = .ok (.aload_n 3, 1) := by decide +kernel
theorem dc_L_law_786 : decode cb_L_law 786 = .ok (.iconst 0, 1) := by decide +kernel
theorem dc_L_law_787 : decode cb_L_law 787 = .ok (.laload, 1) := by decide +kernel
theorem dc_L_law_788 : decode cb_L_law 788 = .ok (.iload 6, 2) := by decide +kernel
theorem dc_L_law_790 : decode cb_L_law 790 = .ok (.i2l, 1) := by decide +kernel
theorem dc_L_law_791 : decode cb_L_law 791 = .ok (.lcmp, 1) := by decide +kernel
theorem dc_L_law_792 : decode cb_L_law 792 = .ok (.ifCond .eq 5, 3) := by decide +kernel
theorem dc_L_law_795 : decode cb_L_law 795 = .ok (.iconst 0, 1) := by decide +kernel
theorem dc_L_law_796 : decode cb_L_law 796 = .ok (.ireturn, 1) := by decide +kernel
theorem dc_L_law_797 : decode cb_L_law 797 = .ok (.goto 59, 3) := by decide +kernel
theorem dc_L_law_800 : decode cb_L_law 800 = .ok (.aload_n 1, 1) := by decide +kernel
theorem dc_L_law_801 : decode cb_L_law 801 = .ok (.aload_n 0, 1) := by decide +kernel
theorem dc_L_law_802 : decode cb_L_law 802 = .ok (.iload 4, 2) := by decide +kernel
theorem dc_L_law_804 : decode cb_L_law 804 = .ok (.iconst 1, 1) := by decide +kernel
theorem dc_L_law_805 : decode cb_L_law 805 = .ok (.iadd, 1) := by decide +kernel
theorem dc_L_law_806 : decode cb_L_law 806 = .ok (.iaload, 1) := by decide +kernel
theorem dc_L_law_807 : decode cb_L_law 807 = .ok (.aload_n 3, 1) := by decide +kernel
theorem dc_L_law_808 : decode cb_L_law 808 = .ok (.invokestatic 100, 3) := by decide +kernel
theorem dc_L_law_811 : decode cb_L_law 811 = .ok (.istore 5, 2) := by decide +kernel
theorem dc_L_law_813 : decode cb_L_law 813 = .ok (.aload_n 2, 1) := by decide +kernel
theorem dc_L_law_814 : decode cb_L_law 814 = .ok (.aload_n 0, 1) := by decide +kernel
theorem dc_L_law_815 : decode cb_L_law 815 = .ok (.iload 4, 2) := by decide +kernel
theorem dc_L_law_817 : decode cb_L_law 817 = .ok (.iconst 1, 1) := by decide +kernel
theorem dc_L_law_818 : decode cb_L_law 818 = .ok (.iadd, 1) := by decide +kernel
theorem dc_L_law_819 : decode cb_L_law 819 = .ok (.iaload, 1) := by decide +kernel
theorem dc_L_law_820 : decode cb_L_law 820 = .ok (.invokevirtual 102, 3) := by decide +kernel
theorem dc_L_law_823 : decode cb_L_law 823 = .ok (.istore 6, 2) := by decide +kernel
theorem dc_L_law_825 : decode cb_L_law 825 = .ok (.aload_n 2, 1) := by decide +kernel
theorem dc_L_law_826 : decode cb_L_law 826 = .ok (.invokevirtual 64, 3) := by decide +kernel
theorem dc_L_law_829 : decode cb_L_law 829 = .ok (.iload 5, 2) := by decide +kernel
theorem dc_L_law_831 : decode cb_L_law 831 = .ok (.if_icmp .eq 5, 3) := by decide +kernel
theorem dc_L_law_834 : decode cb_L_law 834 = .ok (.iconst 0, 1) := by decide +kernel
theorem dc_L_law_835 : decode cb_L_law 835 = .ok (.ireturn, 1) := by decide +kernel
theorem dc_L_law_836 : decode cb_L_law 836 = .ok (.iload 5, 2) := by decide +kernel
theorem dc_L_law_838 : decode cb_L_law 838 = .ok (.ifCond .ne 15, 3) := by decide +kernel
theorem dc_L_law_841 : decode cb_L_law 841 = .ok (.aload_n 3, 1) := by decide +kernel
theorem dc_L_law_842 : decode cb_L_law 842 = .ok (.iconst 0, 1) := by decide +kernel
theorem dc_L_law_843 : decode cb_L_law 843 = .ok (.laload, 1) := by decide +kernel
theorem dc_L_law_844 : decode cb_L_law 844 = .ok (.iload 6, 2) := by decide +kernel
theorem dc_L_law_846 : decode cb_L_law 846 = .ok (.i2l, 1) := by decide +kernel
theorem dc_L_law_847 : decode cb_L_law 847 = .ok (.lcmp, 1) := by decide +kernel
theorem dc_L_law_848 : decode cb_L_law 848 = .ok (.ifCond .eq 5, 3) := by decide +kernel
theorem dc_L_law_851 : decode cb_L_law 851 = .ok (.iconst 0, 1) := by decide +kernel
theorem dc_L_law_852 : decode cb_L_law 852 = .ok (.ireturn, 1) := by decide +kernel
theorem dc_L_law_853 : decode cb_L_law 853 = .ok (.goto 3, 3) := by decide +kernel
theorem dc_L_law_856 : decode cb_L_law 856 = .ok (.iinc 4 5, 3) := by decide +kernel
theorem dc_L_law_859 : decode cb_L_law 859 = .ok (.goto (-836), 3) := by decide +kernel
theorem dc_L_law_862 : decode cb_L_law 862 = .ok (.iconst 1, 1) := by decide +kernel
theorem dc_L_law_863 : decode cb_L_law 863 = .ok (.ireturn, 1) := by decide +kernel
theorem ok_L_63 : th_okV rn_L 63 rn_O yn_O_add cb_O_add 6 (some .int) 4 := ⟨⟨(tb 745 (by decide +kernel) rfl), (tb 53 (by decide +kernel) rfl), (tb 742 (by decide +kernel) rfl), by decide, by decide, by decide⟩, (tb 743 (by decide +kernel) rfl), (tb 744 (by decide +kernel) rfl)⟩
theorem ok_L_64 : th_okV rn_L 64 rn_O yn_O_thrown cb_O_thrown 1 (some .int) 0 := ⟨⟨(tb 741 (by decide +kernel) rfl), (tb 53 (by decide +kernel) rfl), (tb 738 (by decide +kernel) rfl), by decide, by decide, by decide⟩, (tb 739 (by decide +kernel) rfl), (tb 740 (by decide +kernel) rfl)⟩
theorem ok_L_71 : th_okV rn_L 71 rn_O yn_O_clear cb_O_clear 3 (some .int) 1 := ⟨⟨(tb 763 (by decide +kernel) rfl), (tb 53 (by decide +kernel) rfl), (tb 760 (by decide +kernel) rfl), by decide, by decide, by decide⟩, (tb 761 (by decide +kernel) rfl), (tb 762 (by decide +kernel) rfl)⟩
theorem ok_L_74 : th_okV rn_L 74 rn_O yn_O_start cb_O_start 2 (some .int) 1 := ⟨⟨(tb 851 (by decide +kernel) rfl), (tb 53 (by decide +kernel) rfl), (tb 848 (by decide +kernel) rfl), by decide, by decide, by decide⟩, (tb 849 (by decide +kernel) rfl), (tb 850 (by decide +kernel) rfl)⟩
theorem ok_L_77 : th_okV rn_L 77 rn_O yn_O_run cb_O_run 4 (some .int) 1 := ⟨⟨(tb 767 (by decide +kernel) rfl), (tb 53 (by decide +kernel) rfl), (tb 764 (by decide +kernel) rfl), by decide, by decide, by decide⟩, (tb 765 (by decide +kernel) rfl), (tb 766 (by decide +kernel) rfl)⟩
theorem ok_L_80 : th_okV rn_L 80 rn_O yn_O_interrupt cb_O_interrupt 2 (some .int) 1 := ⟨⟨(tb 855 (by decide +kernel) rfl), (tb 53 (by decide +kernel) rfl), (tb 852 (by decide +kernel) rfl), by decide, by decide, by decide⟩, (tb 853 (by decide +kernel) rfl), (tb 854 (by decide +kernel) rfl)⟩
theorem ok_L_83 : th_okV rn_L 83 rn_O yn_O_slice cb_O_slice 3 (some .int) 1 := ⟨⟨(tb 859 (by decide +kernel) rfl), (tb 53 (by decide +kernel) rfl), (tb 856 (by decide +kernel) rfl), by decide, by decide, by decide⟩, (tb 857 (by decide +kernel) rfl), (tb 858 (by decide +kernel) rfl)⟩
theorem ok_L_87 : th_okV rn_L 87 rn_O yn_O_global cb_O_global 4 (some .int) 2 := ⟨⟨(tb 863 (by decide +kernel) rfl), (tb 53 (by decide +kernel) rfl), (tb 860 (by decide +kernel) rfl), by decide, by decide, by decide⟩, (tb 861 (by decide +kernel) rfl), (tb 862 (by decide +kernel) rfl)⟩
theorem ok_L_90 : th_okV rn_L 90 rn_O yn_O_special cb_O_special 3 (some .int) 2 := ⟨⟨(tb 867 (by decide +kernel) rfl), (tb 53 (by decide +kernel) rfl), (tb 864 (by decide +kernel) rfl), by decide, by decide, by decide⟩, (tb 865 (by decide +kernel) rfl), (tb 866 (by decide +kernel) rfl)⟩
theorem ok_L_93 : th_okV rn_L 93 rn_O yn_O_look cb_O_look 3 (some .int) 2 := ⟨⟨(tb 871 (by decide +kernel) rfl), (tb 53 (by decide +kernel) rfl), (tb 868 (by decide +kernel) rfl), by decide, by decide, by decide⟩, (tb 869 (by decide +kernel) rfl), (tb 870 (by decide +kernel) rfl)⟩
theorem ok_L_96 : th_okV rn_L 96 rn_O yn_O_lock cb_O_lock 3 (some .int) 2 := ⟨⟨(tb 875 (by decide +kernel) rfl), (tb 53 (by decide +kernel) rfl), (tb 872 (by decide +kernel) rfl), by decide, by decide, by decide⟩, (tb 873 (by decide +kernel) rfl), (tb 874 (by decide +kernel) rfl)⟩
theorem ok_L_99 : th_okV rn_L 99 rn_O yn_O_said cb_O_said 2 (some .int) 1 := ⟨⟨(tb 879 (by decide +kernel) rfl), (tb 53 (by decide +kernel) rfl), (tb 876 (by decide +kernel) rfl), by decide, by decide, by decide⟩, (tb 877 (by decide +kernel) rfl), (tb 878 (by decide +kernel) rfl)⟩
theorem ok_L_102 : th_okV rn_L 102 rn_O yn_O_count cb_O_count 4 (some .int) 1 := ⟨⟨(tb 883 (by decide +kernel) rfl), (tb 53 (by decide +kernel) rfl), (tb 880 (by decide +kernel) rfl), by decide, by decide, by decide⟩, (tb 881 (by decide +kernel) rfl), (tb 882 (by decide +kernel) rfl)⟩
theorem okW_58 : th_okW rn_L 58 yn_L_add cb_L_add 7 (some .int) [(0, 14, 17, 13), (0, 14, 21, 15), (0, 14, 25, 17)] 6 := ⟨⟨(tb 264 (by decide +kernel) rfl), (tb 46 (by decide +kernel) rfl), (tb 262 (by decide +kernel) rfl), by decide, by decide, by decide⟩, (tb 263 (by decide +kernel) rfl)⟩
theorem okW_68 : th_okW rn_L 68 yn_L_clear cb_L_clear 4 (some .int) [(0, 9, 12, 13), (0, 9, 15, 15)] 3 := ⟨⟨(tb 391 (by decide +kernel) rfl), (tb 46 (by decide +kernel) rfl), (tb 389 (by decide +kernel) rfl), by decide, by decide, by decide⟩, (tb 390 (by decide +kernel) rfl)⟩
theorem okW_72 : th_okW rn_L 72 yn_L_start cb_L_start 4 (some .int) [(0, 9, 12, 13)] 3 := ⟨⟨(tb 398 (by decide +kernel) rfl), (tb 46 (by decide +kernel) rfl), (tb 396 (by decide +kernel) rfl), by decide, by decide, by decide⟩, (tb 397 (by decide +kernel) rfl)⟩
theorem okW_75 : th_okW rn_L 75 yn_L_run cb_L_run 4 (some .int) [(0, 9, 12, 13)] 3 := ⟨⟨(tb 417 (by decide +kernel) rfl), (tb 46 (by decide +kernel) rfl), (tb 415 (by decide +kernel) rfl), by decide, by decide, by decide⟩, (tb 416 (by decide +kernel) rfl)⟩
theorem okW_78 : th_okW rn_L 78 yn_L_interrupt cb_L_interrupt 4 (some .int) [(0, 9, 12, 13)] 3 := ⟨⟨(tb 560 (by decide +kernel) rfl), (tb 46 (by decide +kernel) rfl), (tb 558 (by decide +kernel) rfl), by decide, by decide, by decide⟩, (tb 559 (by decide +kernel) rfl)⟩
theorem okW_81 : th_okW rn_L 81 yn_L_slice cb_L_slice 4 (some .int) [(0, 9, 12, 13)] 3 := ⟨⟨(tb 567 (by decide +kernel) rfl), (tb 46 (by decide +kernel) rfl), (tb 565 (by decide +kernel) rfl), by decide, by decide, by decide⟩, (tb 566 (by decide +kernel) rfl)⟩
theorem okW_84 : th_okW rn_L 84 yn_L_global cb_L_global 5 (some .int) [(0, 10, 13, 13)] 4 := ⟨⟨(tb 574 (by decide +kernel) rfl), (tb 46 (by decide +kernel) rfl), (tb 572 (by decide +kernel) rfl), by decide, by decide, by decide⟩, (tb 573 (by decide +kernel) rfl)⟩
theorem okW_88 : th_okW rn_L 88 yn_L_special cb_L_special 5 (some .int) [(0, 10, 13, 13)] 4 := ⟨⟨(tb 581 (by decide +kernel) rfl), (tb 46 (by decide +kernel) rfl), (tb 579 (by decide +kernel) rfl), by decide, by decide, by decide⟩, (tb 580 (by decide +kernel) rfl)⟩
theorem okW_91 : th_okW rn_L 91 yn_L_look cb_L_look 5 (some .int) [(0, 10, 13, 13)] 4 := ⟨⟨(tb 588 (by decide +kernel) rfl), (tb 46 (by decide +kernel) rfl), (tb 586 (by decide +kernel) rfl), by decide, by decide, by decide⟩, (tb 587 (by decide +kernel) rfl)⟩
theorem okW_94 : th_okW rn_L 94 yn_L_lock cb_L_lock 5 (some .int) [(0, 10, 13, 13)] 4 := ⟨⟨(tb 595 (by decide +kernel) rfl), (tb 46 (by decide +kernel) rfl), (tb 593 (by decide +kernel) rfl), by decide, by decide, by decide⟩, (tb 594 (by decide +kernel) rfl)⟩
theorem okW_97 : th_okW rn_L 97 yn_L_said cb_L_said 4 (some .int) [(0, 9, 12, 17)] 3 := ⟨⟨(tb 602 (by decide +kernel) rfl), (tb 46 (by decide +kernel) rfl), (tb 600 (by decide +kernel) rfl), by decide, by decide, by decide⟩, (tb 601 (by decide +kernel) rfl)⟩
theorem okW_100 : th_okW rn_L 100 yn_L_count cb_L_count 4 (some .int) [(0, 9, 12, 13)] 3 := ⟨⟨(tb 609 (by decide +kernel) rfl), (tb 46 (by decide +kernel) rfl), (tb 607 (by decide +kernel) rfl), by decide, by decide, by decide⟩, (tb 608 (by decide +kernel) rfl)⟩
end
section
theorem th_m57 {a b c d e f g : Nat × th_V} : ∀ q ∈ [a, b, c, d, e], q ∈ [a, b, c, d, e, f, g] := fun q hq => List.mem_append_left [f, g] hq
set_option maxRecDepth 100000 in
set_option maxHeartbeats 4000000 in
theorem law_body (l : Launch) (hl : l.stackTraces = false) {z : th_Z} {rt : Option FieldType} {tb0 : List ExceptionTableEntry} {L : Nat} {xs : Nat → Int32} (C : th_C l z cb_L_law 7 rn_L room_1 rt tb0) (hX : th_SX z L xs) (hL : L ≤ 5)
    (hend : ∀ pc lv mu kc ks, decode cb_L_law pc = .ok (.ireturn, 1) → kc ≤ 600002 → ks ≤ 7302232 → th_G l z 7 pc lv [.inl 1] mu kc ks) : th_G l z 7 0 [(0, .inr (some (90, 0)))] [] hm_0 0 0 := by
  refine th_new (mu := hm_0) (t := 0) (i := 0) (n := 0) C dc_L_law_0 cl_0 (tb 60 (by decide +kernel) rfl) (tb 61 (by decide +kernel) rfl) (tb 47 (by decide +kernel) rfl) (by decide +kernel) (by decide +kernel) (by decide) (by decide +kernel) (th_hz hc_0 (by decide +kernel) hd_0) (by decide) (by decide) ?_
  change th_G l z _ _ _ _ hm_1 _ _
  refine th_dup C dc_L_law_3 ?_
  refine tk_callI (m1 := hm_46) C (k_H l hl) okI_L_54 rfl (Nat.le_of_ble_eq_true rfl) dc_L_law_4 rfl ?_
  refine th_astore_n (lv' := [(0, .inr (some (90, 0))), (1, .inr (some (0, 0)))]) C dc_L_law_7 rfl (by decide) rfl ?_
  refine th_new (mu := hm_46) (t := 20) (i := 0) (n := 86) C dc_L_law_8 cl_20 (tb 622 (by decide +kernel) rfl) (tb 623 (by decide +kernel) rfl) (tb 53 (by decide +kernel) rfl) (by decide +kernel) (by decide +kernel) (by decide) (by decide +kernel) (th_hz hc_46 (by decide +kernel) hd_20) (by decide) (by decide) ?_
  change th_G l z _ _ _ _ hm_47 _ _
  refine th_dup C dc_L_law_11 ?_
  refine tk_callI (m1 := hm_123) C (k_O l hl) okI_L_57 rfl (Nat.le_of_ble_eq_true rfl) dc_L_law_12 rfl ?_
  refine th_astore_n (lv' := [(0, .inr (some (90, 0))), (1, .inr (some (0, 0))), (2, .inr (some (20, 0)))]) C dc_L_law_15 rfl (by decide) rfl ?_
  refine th_iconst (v := 1) C dc_L_law_16 th_c_1 ?_
  refine th_newl (mu := hm_123) (t := 17) (i := 0) (N := 1) (n := 120) C dc_L_law_17 rfl (fun _ => rfl) (tb 884 (by decide +kernel) rfl) (by decide) (by decide) (by decide) (by decide +kernel) (by decide +kernel) (by decide) (by decide +kernel) (by rw [hc_123.1]; rfl) (fun k => (hc_123.2 17 0 k (by decide +kernel)).1) (by decide) (by decide) ?_
  refine th_astore_n (lv' := [(0, .inr (some (90, 0))), (1, .inr (some (0, 0))), (2, .inr (some (20, 0))), (3, .inr (some (17, 0)))]) C dc_L_law_19 rfl (by decide) rfl ?_
  refine th_conv ?_
  refine th_iconst (v := 0) C dc_L_law_20 th_c_0 ?_
  refine th_istore (lv' := [(0, .inr (some (90, 0))), (1, .inr (some (0, 0))), (2, .inr (some (20, 0))), (3, .inr (some (17, 0))), (4, .inl (0 : Int32))]) C dc_L_law_21 (by decide) rfl ?_
  obtain ⟨vL, hvL⟩ : ∃ q : Int32, Int32.ofNat L = q := ⟨_, rfl⟩
  have hv5 : vL.toInt = (L : Int) := by rw [← hvL]; exact th_of5 L (by omega)
  refine th_iload C dc_L_law_23 rfl ?_
  refine th_aload_n C dc_L_law_25 rfl rfl ?_
  refine th_xlen C hX dc_L_law_26 hvL ?_
  refine th_iconst (v := 5) C dc_L_law_27 th_c_5 ?_
  refine tq_isub C dc_L_law_28 rfl th_l_5 (fun x1 e1 a1 => ?_)
  refine tq_icmp_gt (tgt := 862) C dc_L_law_29 (by decide) th_l_0 rfl (fun c1 => ?_) (fun c1 => ?_)
  · refine th_iconst (v := 1) C dc_L_law_862 th_c_1 ?_
    exact hend _ _ _ _ _ dc_L_law_863 (by decide) (by decide)
  · have h5 : L = 5 := by omega
    have tail : ∀ (J : th_I) (kc ks : Nat), kc ≤ 1000 → ks ≤ 100000 → th_G l z 7 856 [(0, .inr (some (90, 0))), (1, .inr (some (0, 0))), (2, .inr (some (20, 0))), (3, .inr (some (17, 0))), (4, .inl (0 : Int32))] [] (th_m J) kc ks := by
      intro J kc ks hkc hks
      refine tq_iinc (lv' := fun rr => [(0, .inr (some (90, 0))), (1, .inr (some (0, 0))), (2, .inr (some (20, 0))), (3, .inr (some (17, 0))), (4, .inl rr)]) C dc_L_law_856 rfl (by decide) th_c_5 th_l_0 th_l_5 (fun rr => rfl) (fun x9 e9 a9 => ?_)
      refine th_goto (tgt := 23) C dc_L_law_859 (by decide) ?_
      refine th_iload C dc_L_law_23 rfl ?_
      refine th_aload_n C dc_L_law_25 rfl rfl ?_
      refine th_xlen C hX dc_L_law_26 hvL ?_
      refine th_iconst (v := 5) C dc_L_law_27 th_c_5 ?_
      refine tq_isub C dc_L_law_28 rfl th_l_5 (fun x2 e2 a2 => ?_)
      refine tq_icmp_gt (tgt := 862) C dc_L_law_29 (by decide) rfl rfl (fun c2 => ?_) (fun c2 => ?_)
      · refine th_iconst (v := 1) C dc_L_law_862 th_c_1 ?_
        exact hend _ _ _ _ _ dc_L_law_863 (by omega) (by omega)
      · exact absurd (by omega) c2
    refine th_aload_n C dc_L_law_32 rfl rfl ?_
    refine th_iload C dc_L_law_33 rfl ?_
    refine th_xld (n := 0) C hX dc_L_law_35 th_l_0 (by decide) (by omega) ?_
    refine th_bipush (v := 15) C dc_L_law_36 th_b_15 ?_
    refine th_iand C dc_L_law_38 ?_
    obtain ⟨sel, hsel⟩ : ∃ q : Int32, q = xs 0 &&& 15 := ⟨_, rfl⟩
    rw [← hsel]
    have w : sel.toInt = 0 ∨ sel.toInt = 1 ∨ sel.toInt = 2 ∨ sel.toInt = 3 ∨ sel.toInt = 4 ∨ sel.toInt = 5 ∨ sel.toInt = 6 ∨ sel.toInt = 7 ∨ sel.toInt = 8 ∨ sel.toInt = 9 ∨ sel.toInt = 10 ∨ sel.toInt = 11 ∨ (sel.toInt < 0 ∨ 11 < sel.toInt) := by omega
    rcases w with w | w | w | w | w | w | w | w | w | w | w | w | w
    · refine th_tableIn (tgt := 100) C dc_L_law_39 (by omega) (by omega) (by rw [w]; rfl) (by decide) ?_
      refine th_aload_n C dc_L_law_100 rfl rfl ?_
      refine th_aload_n C dc_L_law_101 rfl rfl ?_
      refine th_iload C dc_L_law_102 rfl ?_
      refine th_iconst (v := 1) C dc_L_law_104 th_c_1 ?_
      refine tq_iadd C dc_L_law_105 th_l_0 th_l_1 (fun y1 f1 b1 => ?_)
      refine th_xld (n := 1) C hX dc_L_law_106 rfl (by omega) (by omega) ?_
      refine th_aload_n C dc_L_law_107 rfl rfl ?_
      refine th_iload C dc_L_law_108 rfl ?_
      refine th_iconst (v := 2) C dc_L_law_110 th_c_2 ?_
      refine tq_iadd C dc_L_law_111 th_l_0 th_l_2 (fun y2 f2 b2 => ?_)
      refine th_xld (n := 2) C hX dc_L_law_112 rfl (by omega) (by omega) ?_
      refine th_aload_n C dc_L_law_113 rfl rfl ?_
      refine th_iload C dc_L_law_114 rfl ?_
      refine th_iconst (v := 3) C dc_L_law_116 th_c_3 ?_
      refine tq_iadd C dc_L_law_117 th_l_0 th_l_3 (fun y3 f3 b3 => ?_)
      refine th_xld (n := 3) C hX dc_L_law_118 rfl (by omega) (by omega) ?_
      refine th_aload_n C dc_L_law_119 rfl rfl ?_
      refine th_iload C dc_L_law_120 rfl ?_
      refine th_iconst (v := 4) C dc_L_law_122 th_c_4 ?_
      refine tq_iadd C dc_L_law_123 th_l_0 th_l_4 (fun y4 f4 b4 => ?_)
      refine th_xld (n := 4) C hX dc_L_law_124 rfl (by omega) (by omega) ?_
      refine th_aload_n C dc_L_law_125 rfl rfl ?_
      refine th_callW C (q_add l hl (xs 1) (xs 2) (xs 3) (xs 4)) okW_58 rfl (Nat.le_of_ble_eq_true rfl) dc_L_law_126 rfl (fun k1 J pk => ?_)
      obtain ⟨pk, fk⟩ := pk
      refine th_istore (lv' := [(0, .inr (some (90, 0))), (1, .inr (some (0, 0))), (2, .inr (some (20, 0))), (3, .inr (some (17, 0))), (4, .inl (0 : Int32)), (5, .inl k1)]) C dc_L_law_129 (by decide) rfl ?_
      refine th_aload_n C dc_L_law_131 rfl rfl ?_
      refine th_aload_n C dc_L_law_132 rfl rfl ?_
      refine th_iload C dc_L_law_133 rfl ?_
      refine th_iconst (v := 1) C dc_L_law_135 th_c_1 ?_
      refine tq_iadd C dc_L_law_136 th_l_0 th_l_1 (fun y1 f1 b1 => ?_)
      refine th_xld (n := 1) C hX dc_L_law_137 rfl (by omega) (by omega) ?_
      refine th_aload_n C dc_L_law_138 rfl rfl ?_
      refine th_iload C dc_L_law_139 rfl ?_
      refine th_iconst (v := 2) C dc_L_law_141 th_c_2 ?_
      refine tq_iadd C dc_L_law_142 th_l_0 th_l_2 (fun y2 f2 b2 => ?_)
      refine th_xld (n := 2) C hX dc_L_law_143 rfl (by omega) (by omega) ?_
      refine th_aload_n C dc_L_law_144 rfl rfl ?_
      refine th_iload C dc_L_law_145 rfl ?_
      refine th_iconst (v := 3) C dc_L_law_147 th_c_3 ?_
      refine tq_iadd C dc_L_law_148 th_l_0 th_l_3 (fun y3 f3 b3 => ?_)
      refine th_xld (n := 3) C hX dc_L_law_149 rfl (by omega) (by omega) ?_
      refine th_aload_n C dc_L_law_150 rfl rfl ?_
      refine th_iload C dc_L_law_151 rfl ?_
      refine th_iconst (v := 4) C dc_L_law_153 th_c_4 ?_
      refine tq_iadd C dc_L_law_154 th_l_0 th_l_4 (fun y4 f4 b4 => ?_)
      refine th_xld (n := 4) C hX dc_L_law_155 rfl (by omega) (by omega) ?_
      refine tq_callVi C (p_O_add l hl (A := J) J (xs 1) (xs 2) (xs 3) (xs 4) ⟨fk, fun _ _ => rfl⟩) ok_L_63 cl_20 (show 0 < 1 from by omega) rfl (Nat.le_of_ble_eq_true rfl) dc_L_law_156 rfl (fun b1 J2 pm => ?_)
      obtain ⟨pm, f17⟩ := pm
      refine th_istore (lv' := [(0, .inr (some (90, 0))), (1, .inr (some (0, 0))), (2, .inr (some (20, 0))), (3, .inr (some (17, 0))), (4, .inl (0 : Int32)), (5, .inl k1), (6, .inl b1)]) C dc_L_law_159 (by decide) rfl ?_
      rcases pk with ⟨k0, d1, a1⟩ | ⟨k0, d1⟩ <;> rcases pm with ⟨d2, a2, t2⟩ | ⟨d2, t2⟩
      · refine th_aload_n C dc_L_law_161 rfl rfl ?_
        refine tq_callVp C (p_O_thrown l hl J2) ok_L_64 cl_20 (show 0 < 1 from by omega) rfl (Nat.le_of_ble_eq_true rfl) dc_L_law_162 rfl (fun x3 p3 => ?_)
        refine th_iload C dc_L_law_165 rfl ?_
        refine tq_icmp_eq (tgt := 172) C dc_L_law_167 (by decide) rfl rfl (fun c3 => ?_) (fun c3 => absurd (by omega) c3)
        refine th_iload C dc_L_law_172 rfl ?_
        refine tq_if_ne (tgt := 189) C dc_L_law_174 (by decide) rfl (fun c4 => absurd k0 c4) (fun c4 => ?_)
        refine th_aload_n C dc_L_law_177 rfl rfl ?_
        refine th_iconst (v := 0) C dc_L_law_178 th_c_0 ?_
        refine th_lcm (mu := th_m J2) (n := 0) (b := b1) (tgt := 189) C dc_L_law_179 dc_L_law_180 dc_L_law_182 dc_L_law_183 dc_L_law_184 (by decide) rfl (show 0 < 1 from by omega) rfl (fun _ => rfl) (th_ixN th_l_0 (by decide) (show 0 < 1 from by omega)) ((f17 0 0).trans (th_eqi (by omega))) ?_
        refine th_goto (tgt := 856) C dc_L_law_189 (by decide) ?_
        refine th_sub C (lv' := [(0, .inr (some (90, 0))), (1, .inr (some (0, 0))), (2, .inr (some (20, 0))), (3, .inr (some (17, 0))), (4, .inl (0 : Int32))]) th_m57 ?_
        exact tail J2 _ _ (by decide) (by decide)
      · exact absurd d1 d2
      · exact absurd d2 d1
      · refine th_aload_n C dc_L_law_161 rfl rfl ?_
        refine tq_callVp C (p_O_thrown l hl J2) ok_L_64 cl_20 (show 0 < 1 from by omega) rfl (Nat.le_of_ble_eq_true rfl) dc_L_law_162 rfl (fun x3 p3 => ?_)
        refine th_iload C dc_L_law_165 rfl ?_
        refine tq_icmp_eq (tgt := 172) C dc_L_law_167 (by decide) rfl rfl (fun c3 => ?_) (fun c3 => absurd (by omega) c3)
        refine th_iload C dc_L_law_172 rfl ?_
        refine tq_if_ne (tgt := 189) C dc_L_law_174 (by decide) rfl (fun c4 => ?_) (fun c4 => absurd (by omega) c4)
        refine th_goto (tgt := 856) C dc_L_law_189 (by decide) ?_
        refine th_sub C (lv' := [(0, .inr (some (90, 0))), (1, .inr (some (0, 0))), (2, .inr (some (20, 0))), (3, .inr (some (17, 0))), (4, .inl (0 : Int32))]) th_m57 ?_
        exact tail J2 _ _ (by decide) (by decide)
    · refine th_tableIn (tgt := 192) C dc_L_law_39 (by omega) (by omega) (by rw [w]; rfl) (by decide) ?_
      refine th_aload_n C dc_L_law_192 rfl rfl ?_
      refine th_aload_n C dc_L_law_193 rfl rfl ?_
      refine th_iload C dc_L_law_194 rfl ?_
      refine th_iconst (v := 1) C dc_L_law_196 th_c_1 ?_
      refine tq_iadd C dc_L_law_197 th_l_0 th_l_1 (fun y1 f1 b1 => ?_)
      refine th_xld (n := 1) C hX dc_L_law_198 rfl (by omega) (by omega) ?_
      refine th_aload_n C dc_L_law_199 rfl rfl ?_
      refine th_callW C (q_clear l hl (xs 1)) okW_68 rfl (Nat.le_of_ble_eq_true rfl) dc_L_law_200 rfl (fun k1 J pk => ?_)
      obtain ⟨pk, fk⟩ := pk
      refine th_istore (lv' := [(0, .inr (some (90, 0))), (1, .inr (some (0, 0))), (2, .inr (some (20, 0))), (3, .inr (some (17, 0))), (4, .inl (0 : Int32)), (5, .inl k1)]) C dc_L_law_203 (by decide) rfl ?_
      refine th_aload_n C dc_L_law_205 rfl rfl ?_
      refine th_aload_n C dc_L_law_206 rfl rfl ?_
      refine th_iload C dc_L_law_207 rfl ?_
      refine th_iconst (v := 1) C dc_L_law_209 th_c_1 ?_
      refine tq_iadd C dc_L_law_210 th_l_0 th_l_1 (fun y1 f1 b1 => ?_)
      refine th_xld (n := 1) C hX dc_L_law_211 rfl (by omega) (by omega) ?_
      refine tq_callVi C (p_O_clear l hl (A := J) J (xs 1) ⟨fk, fun _ _ => rfl⟩) ok_L_71 cl_20 (show 0 < 1 from by omega) rfl (Nat.le_of_ble_eq_true rfl) dc_L_law_212 rfl (fun b1 J2 pm => ?_)
      obtain ⟨pm, f17⟩ := pm
      refine th_istore (lv' := [(0, .inr (some (90, 0))), (1, .inr (some (0, 0))), (2, .inr (some (20, 0))), (3, .inr (some (17, 0))), (4, .inl (0 : Int32)), (5, .inl k1), (6, .inl b1)]) C dc_L_law_215 (by decide) rfl ?_
      rcases pk with ⟨k0, d1, a1⟩ | ⟨k0, d1⟩ <;> rcases pm with ⟨d2, a2, t2⟩ | ⟨d2, t2⟩
      · refine th_aload_n C dc_L_law_217 rfl rfl ?_
        refine tq_callVp C (p_O_thrown l hl J2) ok_L_64 cl_20 (show 0 < 1 from by omega) rfl (Nat.le_of_ble_eq_true rfl) dc_L_law_218 rfl (fun x3 p3 => ?_)
        refine th_iload C dc_L_law_221 rfl ?_
        refine tq_icmp_eq (tgt := 228) C dc_L_law_223 (by decide) rfl rfl (fun c3 => ?_) (fun c3 => absurd (by omega) c3)
        refine th_iload C dc_L_law_228 rfl ?_
        refine tq_if_ne (tgt := 245) C dc_L_law_230 (by decide) rfl (fun c4 => absurd k0 c4) (fun c4 => ?_)
        refine th_aload_n C dc_L_law_233 rfl rfl ?_
        refine th_iconst (v := 0) C dc_L_law_234 th_c_0 ?_
        refine th_lcm (mu := th_m J2) (n := 0) (b := b1) (tgt := 245) C dc_L_law_235 dc_L_law_236 dc_L_law_238 dc_L_law_239 dc_L_law_240 (by decide) rfl (show 0 < 1 from by omega) rfl (fun _ => rfl) (th_ixN th_l_0 (by decide) (show 0 < 1 from by omega)) ((f17 0 0).trans (th_eqi (by omega))) ?_
        refine th_goto (tgt := 856) C dc_L_law_245 (by decide) ?_
        refine th_sub C (lv' := [(0, .inr (some (90, 0))), (1, .inr (some (0, 0))), (2, .inr (some (20, 0))), (3, .inr (some (17, 0))), (4, .inl (0 : Int32))]) th_m57 ?_
        exact tail J2 _ _ (by decide) (by decide)
      · exact absurd d1 d2
      · exact absurd d2 d1
      · refine th_aload_n C dc_L_law_217 rfl rfl ?_
        refine tq_callVp C (p_O_thrown l hl J2) ok_L_64 cl_20 (show 0 < 1 from by omega) rfl (Nat.le_of_ble_eq_true rfl) dc_L_law_218 rfl (fun x3 p3 => ?_)
        refine th_iload C dc_L_law_221 rfl ?_
        refine tq_icmp_eq (tgt := 228) C dc_L_law_223 (by decide) rfl rfl (fun c3 => ?_) (fun c3 => absurd (by omega) c3)
        refine th_iload C dc_L_law_228 rfl ?_
        refine tq_if_ne (tgt := 245) C dc_L_law_230 (by decide) rfl (fun c4 => ?_) (fun c4 => absurd (by omega) c4)
        refine th_goto (tgt := 856) C dc_L_law_245 (by decide) ?_
        refine th_sub C (lv' := [(0, .inr (some (90, 0))), (1, .inr (some (0, 0))), (2, .inr (some (20, 0))), (3, .inr (some (17, 0))), (4, .inl (0 : Int32))]) th_m57 ?_
        exact tail J2 _ _ (by decide) (by decide)
    · refine th_tableIn (tgt := 248) C dc_L_law_39 (by omega) (by omega) (by rw [w]; rfl) (by decide) ?_
      refine th_aload_n C dc_L_law_248 rfl rfl ?_
      refine th_aload_n C dc_L_law_249 rfl rfl ?_
      refine th_iload C dc_L_law_250 rfl ?_
      refine th_iconst (v := 1) C dc_L_law_252 th_c_1 ?_
      refine tq_iadd C dc_L_law_253 th_l_0 th_l_1 (fun y1 f1 b1 => ?_)
      refine th_xld (n := 1) C hX dc_L_law_254 rfl (by omega) (by omega) ?_
      refine th_aload_n C dc_L_law_255 rfl rfl ?_
      refine th_callW C (q_start l hl (xs 1)) okW_72 rfl (Nat.le_of_ble_eq_true rfl) dc_L_law_256 rfl (fun k1 J pk => ?_)
      obtain ⟨pk, fk⟩ := pk
      refine th_istore (lv' := [(0, .inr (some (90, 0))), (1, .inr (some (0, 0))), (2, .inr (some (20, 0))), (3, .inr (some (17, 0))), (4, .inl (0 : Int32)), (5, .inl k1)]) C dc_L_law_259 (by decide) rfl ?_
      refine th_aload_n C dc_L_law_261 rfl rfl ?_
      refine th_aload_n C dc_L_law_262 rfl rfl ?_
      refine th_iload C dc_L_law_263 rfl ?_
      refine th_iconst (v := 1) C dc_L_law_265 th_c_1 ?_
      refine tq_iadd C dc_L_law_266 th_l_0 th_l_1 (fun y1 f1 b1 => ?_)
      refine th_xld (n := 1) C hX dc_L_law_267 rfl (by omega) (by omega) ?_
      refine tq_callVi C (p_O_start l hl (A := J) J (xs 1) ⟨fk, fun _ _ => rfl⟩) ok_L_74 cl_20 (show 0 < 1 from by omega) rfl (Nat.le_of_ble_eq_true rfl) dc_L_law_268 rfl (fun b1 J2 pm => ?_)
      obtain ⟨pm, f17⟩ := pm
      refine th_istore (lv' := [(0, .inr (some (90, 0))), (1, .inr (some (0, 0))), (2, .inr (some (20, 0))), (3, .inr (some (17, 0))), (4, .inl (0 : Int32)), (5, .inl k1), (6, .inl b1)]) C dc_L_law_271 (by decide) rfl ?_
      rcases pk with ⟨k0, d1, a1⟩ | ⟨k0, d1⟩ <;> rcases pm with ⟨d2, a2, t2⟩ | ⟨d2, t2⟩
      · refine th_aload_n C dc_L_law_273 rfl rfl ?_
        refine tq_callVp C (p_O_thrown l hl J2) ok_L_64 cl_20 (show 0 < 1 from by omega) rfl (Nat.le_of_ble_eq_true rfl) dc_L_law_274 rfl (fun x3 p3 => ?_)
        refine th_iload C dc_L_law_277 rfl ?_
        refine tq_icmp_eq (tgt := 284) C dc_L_law_279 (by decide) rfl rfl (fun c3 => ?_) (fun c3 => absurd (by omega) c3)
        refine th_iload C dc_L_law_284 rfl ?_
        refine tq_if_ne (tgt := 301) C dc_L_law_286 (by decide) rfl (fun c4 => absurd k0 c4) (fun c4 => ?_)
        refine th_aload_n C dc_L_law_289 rfl rfl ?_
        refine th_iconst (v := 0) C dc_L_law_290 th_c_0 ?_
        refine th_lcm (mu := th_m J2) (n := 0) (b := b1) (tgt := 301) C dc_L_law_291 dc_L_law_292 dc_L_law_294 dc_L_law_295 dc_L_law_296 (by decide) rfl (show 0 < 1 from by omega) rfl (fun _ => rfl) (th_ixN th_l_0 (by decide) (show 0 < 1 from by omega)) ((f17 0 0).trans (th_eqi (by omega))) ?_
        refine th_goto (tgt := 856) C dc_L_law_301 (by decide) ?_
        refine th_sub C (lv' := [(0, .inr (some (90, 0))), (1, .inr (some (0, 0))), (2, .inr (some (20, 0))), (3, .inr (some (17, 0))), (4, .inl (0 : Int32))]) th_m57 ?_
        exact tail J2 _ _ (by decide) (by decide)
      · exact absurd d1 d2
      · exact absurd d2 d1
      · refine th_aload_n C dc_L_law_273 rfl rfl ?_
        refine tq_callVp C (p_O_thrown l hl J2) ok_L_64 cl_20 (show 0 < 1 from by omega) rfl (Nat.le_of_ble_eq_true rfl) dc_L_law_274 rfl (fun x3 p3 => ?_)
        refine th_iload C dc_L_law_277 rfl ?_
        refine tq_icmp_eq (tgt := 284) C dc_L_law_279 (by decide) rfl rfl (fun c3 => ?_) (fun c3 => absurd (by omega) c3)
        refine th_iload C dc_L_law_284 rfl ?_
        refine tq_if_ne (tgt := 301) C dc_L_law_286 (by decide) rfl (fun c4 => ?_) (fun c4 => absurd (by omega) c4)
        refine th_goto (tgt := 856) C dc_L_law_301 (by decide) ?_
        refine th_sub C (lv' := [(0, .inr (some (90, 0))), (1, .inr (some (0, 0))), (2, .inr (some (20, 0))), (3, .inr (some (17, 0))), (4, .inl (0 : Int32))]) th_m57 ?_
        exact tail J2 _ _ (by decide) (by decide)
    · refine th_tableIn (tgt := 304) C dc_L_law_39 (by omega) (by omega) (by rw [w]; rfl) (by decide) ?_
      refine th_aload_n C dc_L_law_304 rfl rfl ?_
      refine th_aload_n C dc_L_law_305 rfl rfl ?_
      refine th_iload C dc_L_law_306 rfl ?_
      refine th_iconst (v := 1) C dc_L_law_308 th_c_1 ?_
      refine tq_iadd C dc_L_law_309 th_l_0 th_l_1 (fun y1 f1 b1 => ?_)
      refine th_xld (n := 1) C hX dc_L_law_310 rfl (by omega) (by omega) ?_
      refine th_aload_n C dc_L_law_311 rfl rfl ?_
      refine th_callW C (q_run l hl (xs 1)) okW_75 rfl (Nat.le_of_ble_eq_true rfl) dc_L_law_312 rfl (fun k1 J pk => ?_)
      obtain ⟨pk, fk⟩ := pk
      refine th_istore (lv' := [(0, .inr (some (90, 0))), (1, .inr (some (0, 0))), (2, .inr (some (20, 0))), (3, .inr (some (17, 0))), (4, .inl (0 : Int32)), (5, .inl k1)]) C dc_L_law_315 (by decide) rfl ?_
      refine th_aload_n C dc_L_law_317 rfl rfl ?_
      refine th_aload_n C dc_L_law_318 rfl rfl ?_
      refine th_iload C dc_L_law_319 rfl ?_
      refine th_iconst (v := 1) C dc_L_law_321 th_c_1 ?_
      refine tq_iadd C dc_L_law_322 th_l_0 th_l_1 (fun y1 f1 b1 => ?_)
      refine th_xld (n := 1) C hX dc_L_law_323 rfl (by omega) (by omega) ?_
      refine tq_callVi C (p_O_run l hl (A := J) J (xs 1) ⟨fk, fun _ _ => rfl⟩) ok_L_77 cl_20 (show 0 < 1 from by omega) rfl (Nat.le_of_ble_eq_true rfl) dc_L_law_324 rfl (fun b1 J2 pm => ?_)
      obtain ⟨pm, f17⟩ := pm
      refine th_istore (lv' := [(0, .inr (some (90, 0))), (1, .inr (some (0, 0))), (2, .inr (some (20, 0))), (3, .inr (some (17, 0))), (4, .inl (0 : Int32)), (5, .inl k1), (6, .inl b1)]) C dc_L_law_327 (by decide) rfl ?_
      rcases pk with ⟨k0, d1, a1⟩ | ⟨k0, d1⟩ <;> rcases pm with ⟨d2, a2, t2⟩ | ⟨d2, t2⟩
      · refine th_aload_n C dc_L_law_329 rfl rfl ?_
        refine tq_callVp C (p_O_thrown l hl J2) ok_L_64 cl_20 (show 0 < 1 from by omega) rfl (Nat.le_of_ble_eq_true rfl) dc_L_law_330 rfl (fun x3 p3 => ?_)
        refine th_iload C dc_L_law_333 rfl ?_
        refine tq_icmp_eq (tgt := 340) C dc_L_law_335 (by decide) rfl rfl (fun c3 => ?_) (fun c3 => absurd (by omega) c3)
        refine th_iload C dc_L_law_340 rfl ?_
        refine tq_if_ne (tgt := 357) C dc_L_law_342 (by decide) rfl (fun c4 => absurd k0 c4) (fun c4 => ?_)
        refine th_aload_n C dc_L_law_345 rfl rfl ?_
        refine th_iconst (v := 0) C dc_L_law_346 th_c_0 ?_
        refine th_lcm (mu := th_m J2) (n := 0) (b := b1) (tgt := 357) C dc_L_law_347 dc_L_law_348 dc_L_law_350 dc_L_law_351 dc_L_law_352 (by decide) rfl (show 0 < 1 from by omega) rfl (fun _ => rfl) (th_ixN th_l_0 (by decide) (show 0 < 1 from by omega)) ((f17 0 0).trans (th_eqi (by omega))) ?_
        refine th_goto (tgt := 856) C dc_L_law_357 (by decide) ?_
        refine th_sub C (lv' := [(0, .inr (some (90, 0))), (1, .inr (some (0, 0))), (2, .inr (some (20, 0))), (3, .inr (some (17, 0))), (4, .inl (0 : Int32))]) th_m57 ?_
        exact tail J2 _ _ (by decide) (by decide)
      · exact absurd d1 d2
      · exact absurd d2 d1
      · refine th_aload_n C dc_L_law_329 rfl rfl ?_
        refine tq_callVp C (p_O_thrown l hl J2) ok_L_64 cl_20 (show 0 < 1 from by omega) rfl (Nat.le_of_ble_eq_true rfl) dc_L_law_330 rfl (fun x3 p3 => ?_)
        refine th_iload C dc_L_law_333 rfl ?_
        refine tq_icmp_eq (tgt := 340) C dc_L_law_335 (by decide) rfl rfl (fun c3 => ?_) (fun c3 => absurd (by omega) c3)
        refine th_iload C dc_L_law_340 rfl ?_
        refine tq_if_ne (tgt := 357) C dc_L_law_342 (by decide) rfl (fun c4 => ?_) (fun c4 => absurd (by omega) c4)
        refine th_goto (tgt := 856) C dc_L_law_357 (by decide) ?_
        refine th_sub C (lv' := [(0, .inr (some (90, 0))), (1, .inr (some (0, 0))), (2, .inr (some (20, 0))), (3, .inr (some (17, 0))), (4, .inl (0 : Int32))]) th_m57 ?_
        exact tail J2 _ _ (by decide) (by decide)
    · refine th_tableIn (tgt := 360) C dc_L_law_39 (by omega) (by omega) (by rw [w]; rfl) (by decide) ?_
      refine th_aload_n C dc_L_law_360 rfl rfl ?_
      refine th_aload_n C dc_L_law_361 rfl rfl ?_
      refine th_iload C dc_L_law_362 rfl ?_
      refine th_iconst (v := 1) C dc_L_law_364 th_c_1 ?_
      refine tq_iadd C dc_L_law_365 th_l_0 th_l_1 (fun y1 f1 b1 => ?_)
      refine th_xld (n := 1) C hX dc_L_law_366 rfl (by omega) (by omega) ?_
      refine th_aload_n C dc_L_law_367 rfl rfl ?_
      refine th_callW C (q_interrupt l hl (xs 1)) okW_78 rfl (Nat.le_of_ble_eq_true rfl) dc_L_law_368 rfl (fun k1 J pk => ?_)
      obtain ⟨pk, fk⟩ := pk
      refine th_istore (lv' := [(0, .inr (some (90, 0))), (1, .inr (some (0, 0))), (2, .inr (some (20, 0))), (3, .inr (some (17, 0))), (4, .inl (0 : Int32)), (5, .inl k1)]) C dc_L_law_371 (by decide) rfl ?_
      refine th_aload_n C dc_L_law_373 rfl rfl ?_
      refine th_aload_n C dc_L_law_374 rfl rfl ?_
      refine th_iload C dc_L_law_375 rfl ?_
      refine th_iconst (v := 1) C dc_L_law_377 th_c_1 ?_
      refine tq_iadd C dc_L_law_378 th_l_0 th_l_1 (fun y1 f1 b1 => ?_)
      refine th_xld (n := 1) C hX dc_L_law_379 rfl (by omega) (by omega) ?_
      refine tq_callVi C (p_O_interrupt l hl (A := J) J (xs 1) ⟨fk, fun _ _ => rfl⟩) ok_L_80 cl_20 (show 0 < 1 from by omega) rfl (Nat.le_of_ble_eq_true rfl) dc_L_law_380 rfl (fun b1 J2 pm => ?_)
      obtain ⟨pm, f17⟩ := pm
      refine th_istore (lv' := [(0, .inr (some (90, 0))), (1, .inr (some (0, 0))), (2, .inr (some (20, 0))), (3, .inr (some (17, 0))), (4, .inl (0 : Int32)), (5, .inl k1), (6, .inl b1)]) C dc_L_law_383 (by decide) rfl ?_
      rcases pk with ⟨k0, d1, a1⟩ | ⟨k0, d1⟩ <;> rcases pm with ⟨d2, a2, t2⟩ | ⟨d2, t2⟩
      · refine th_aload_n C dc_L_law_385 rfl rfl ?_
        refine tq_callVp C (p_O_thrown l hl J2) ok_L_64 cl_20 (show 0 < 1 from by omega) rfl (Nat.le_of_ble_eq_true rfl) dc_L_law_386 rfl (fun x3 p3 => ?_)
        refine th_iload C dc_L_law_389 rfl ?_
        refine tq_icmp_eq (tgt := 396) C dc_L_law_391 (by decide) rfl rfl (fun c3 => ?_) (fun c3 => absurd (by omega) c3)
        refine th_iload C dc_L_law_396 rfl ?_
        refine tq_if_ne (tgt := 413) C dc_L_law_398 (by decide) rfl (fun c4 => absurd k0 c4) (fun c4 => ?_)
        refine th_aload_n C dc_L_law_401 rfl rfl ?_
        refine th_iconst (v := 0) C dc_L_law_402 th_c_0 ?_
        refine th_lcm (mu := th_m J2) (n := 0) (b := b1) (tgt := 413) C dc_L_law_403 dc_L_law_404 dc_L_law_406 dc_L_law_407 dc_L_law_408 (by decide) rfl (show 0 < 1 from by omega) rfl (fun _ => rfl) (th_ixN th_l_0 (by decide) (show 0 < 1 from by omega)) ((f17 0 0).trans (th_eqi (by omega))) ?_
        refine th_goto (tgt := 856) C dc_L_law_413 (by decide) ?_
        refine th_sub C (lv' := [(0, .inr (some (90, 0))), (1, .inr (some (0, 0))), (2, .inr (some (20, 0))), (3, .inr (some (17, 0))), (4, .inl (0 : Int32))]) th_m57 ?_
        exact tail J2 _ _ (by decide) (by decide)
      · exact absurd d1 d2
      · exact absurd d2 d1
      · refine th_aload_n C dc_L_law_385 rfl rfl ?_
        refine tq_callVp C (p_O_thrown l hl J2) ok_L_64 cl_20 (show 0 < 1 from by omega) rfl (Nat.le_of_ble_eq_true rfl) dc_L_law_386 rfl (fun x3 p3 => ?_)
        refine th_iload C dc_L_law_389 rfl ?_
        refine tq_icmp_eq (tgt := 396) C dc_L_law_391 (by decide) rfl rfl (fun c3 => ?_) (fun c3 => absurd (by omega) c3)
        refine th_iload C dc_L_law_396 rfl ?_
        refine tq_if_ne (tgt := 413) C dc_L_law_398 (by decide) rfl (fun c4 => ?_) (fun c4 => absurd (by omega) c4)
        refine th_goto (tgt := 856) C dc_L_law_413 (by decide) ?_
        refine th_sub C (lv' := [(0, .inr (some (90, 0))), (1, .inr (some (0, 0))), (2, .inr (some (20, 0))), (3, .inr (some (17, 0))), (4, .inl (0 : Int32))]) th_m57 ?_
        exact tail J2 _ _ (by decide) (by decide)
    · refine th_tableIn (tgt := 416) C dc_L_law_39 (by omega) (by omega) (by rw [w]; rfl) (by decide) ?_
      refine th_aload_n C dc_L_law_416 rfl rfl ?_
      refine th_aload_n C dc_L_law_417 rfl rfl ?_
      refine th_iload C dc_L_law_418 rfl ?_
      refine th_iconst (v := 1) C dc_L_law_420 th_c_1 ?_
      refine tq_iadd C dc_L_law_421 th_l_0 th_l_1 (fun y1 f1 b1 => ?_)
      refine th_xld (n := 1) C hX dc_L_law_422 rfl (by omega) (by omega) ?_
      refine th_aload_n C dc_L_law_423 rfl rfl ?_
      refine th_callW C (q_slice l hl (xs 1)) okW_81 rfl (Nat.le_of_ble_eq_true rfl) dc_L_law_424 rfl (fun k1 J pk => ?_)
      obtain ⟨pk, fk⟩ := pk
      refine th_istore (lv' := [(0, .inr (some (90, 0))), (1, .inr (some (0, 0))), (2, .inr (some (20, 0))), (3, .inr (some (17, 0))), (4, .inl (0 : Int32)), (5, .inl k1)]) C dc_L_law_427 (by decide) rfl ?_
      refine th_aload_n C dc_L_law_429 rfl rfl ?_
      refine th_aload_n C dc_L_law_430 rfl rfl ?_
      refine th_iload C dc_L_law_431 rfl ?_
      refine th_iconst (v := 1) C dc_L_law_433 th_c_1 ?_
      refine tq_iadd C dc_L_law_434 th_l_0 th_l_1 (fun y1 f1 b1 => ?_)
      refine th_xld (n := 1) C hX dc_L_law_435 rfl (by omega) (by omega) ?_
      refine tq_callVi C (p_O_slice l hl (A := J) J (xs 1) ⟨fk, fun _ _ => rfl⟩) ok_L_83 cl_20 (show 0 < 1 from by omega) rfl (Nat.le_of_ble_eq_true rfl) dc_L_law_436 rfl (fun b1 J2 pm => ?_)
      obtain ⟨pm, f17⟩ := pm
      refine th_istore (lv' := [(0, .inr (some (90, 0))), (1, .inr (some (0, 0))), (2, .inr (some (20, 0))), (3, .inr (some (17, 0))), (4, .inl (0 : Int32)), (5, .inl k1), (6, .inl b1)]) C dc_L_law_439 (by decide) rfl ?_
      rcases pk with ⟨k0, d1, a1⟩ | ⟨k0, d1⟩ <;> rcases pm with ⟨d2, a2, t2⟩ | ⟨d2, t2⟩
      · refine th_aload_n C dc_L_law_441 rfl rfl ?_
        refine tq_callVp C (p_O_thrown l hl J2) ok_L_64 cl_20 (show 0 < 1 from by omega) rfl (Nat.le_of_ble_eq_true rfl) dc_L_law_442 rfl (fun x3 p3 => ?_)
        refine th_iload C dc_L_law_445 rfl ?_
        refine tq_icmp_eq (tgt := 452) C dc_L_law_447 (by decide) rfl rfl (fun c3 => ?_) (fun c3 => absurd (by omega) c3)
        refine th_iload C dc_L_law_452 rfl ?_
        refine tq_if_ne (tgt := 469) C dc_L_law_454 (by decide) rfl (fun c4 => absurd k0 c4) (fun c4 => ?_)
        refine th_aload_n C dc_L_law_457 rfl rfl ?_
        refine th_iconst (v := 0) C dc_L_law_458 th_c_0 ?_
        refine th_lcm (mu := th_m J2) (n := 0) (b := b1) (tgt := 469) C dc_L_law_459 dc_L_law_460 dc_L_law_462 dc_L_law_463 dc_L_law_464 (by decide) rfl (show 0 < 1 from by omega) rfl (fun _ => rfl) (th_ixN th_l_0 (by decide) (show 0 < 1 from by omega)) ((f17 0 0).trans (th_eqi (by omega))) ?_
        refine th_goto (tgt := 856) C dc_L_law_469 (by decide) ?_
        refine th_sub C (lv' := [(0, .inr (some (90, 0))), (1, .inr (some (0, 0))), (2, .inr (some (20, 0))), (3, .inr (some (17, 0))), (4, .inl (0 : Int32))]) th_m57 ?_
        exact tail J2 _ _ (by decide) (by decide)
      · exact absurd d1 d2
      · exact absurd d2 d1
      · refine th_aload_n C dc_L_law_441 rfl rfl ?_
        refine tq_callVp C (p_O_thrown l hl J2) ok_L_64 cl_20 (show 0 < 1 from by omega) rfl (Nat.le_of_ble_eq_true rfl) dc_L_law_442 rfl (fun x3 p3 => ?_)
        refine th_iload C dc_L_law_445 rfl ?_
        refine tq_icmp_eq (tgt := 452) C dc_L_law_447 (by decide) rfl rfl (fun c3 => ?_) (fun c3 => absurd (by omega) c3)
        refine th_iload C dc_L_law_452 rfl ?_
        refine tq_if_ne (tgt := 469) C dc_L_law_454 (by decide) rfl (fun c4 => ?_) (fun c4 => absurd (by omega) c4)
        refine th_goto (tgt := 856) C dc_L_law_469 (by decide) ?_
        refine th_sub C (lv' := [(0, .inr (some (90, 0))), (1, .inr (some (0, 0))), (2, .inr (some (20, 0))), (3, .inr (some (17, 0))), (4, .inl (0 : Int32))]) th_m57 ?_
        exact tail J2 _ _ (by decide) (by decide)
    · refine th_tableIn (tgt := 472) C dc_L_law_39 (by omega) (by omega) (by rw [w]; rfl) (by decide) ?_
      refine th_aload_n C dc_L_law_472 rfl rfl ?_
      refine th_aload_n C dc_L_law_473 rfl rfl ?_
      refine th_iload C dc_L_law_474 rfl ?_
      refine th_iconst (v := 1) C dc_L_law_476 th_c_1 ?_
      refine tq_iadd C dc_L_law_477 th_l_0 th_l_1 (fun y1 f1 b1 => ?_)
      refine th_xld (n := 1) C hX dc_L_law_478 rfl (by omega) (by omega) ?_
      refine th_aload_n C dc_L_law_479 rfl rfl ?_
      refine th_iload C dc_L_law_480 rfl ?_
      refine th_iconst (v := 2) C dc_L_law_482 th_c_2 ?_
      refine tq_iadd C dc_L_law_483 th_l_0 th_l_2 (fun y2 f2 b2 => ?_)
      refine th_xld (n := 2) C hX dc_L_law_484 rfl (by omega) (by omega) ?_
      refine th_aload_n C dc_L_law_485 rfl rfl ?_
      refine th_callW C (q_global l hl (xs 1) (xs 2)) okW_84 rfl (Nat.le_of_ble_eq_true rfl) dc_L_law_486 rfl (fun k1 J pk => ?_)
      obtain ⟨pk, fk⟩ := pk
      refine th_istore (lv' := [(0, .inr (some (90, 0))), (1, .inr (some (0, 0))), (2, .inr (some (20, 0))), (3, .inr (some (17, 0))), (4, .inl (0 : Int32)), (5, .inl k1)]) C dc_L_law_489 (by decide) rfl ?_
      refine th_aload_n C dc_L_law_491 rfl rfl ?_
      refine th_aload_n C dc_L_law_492 rfl rfl ?_
      refine th_iload C dc_L_law_493 rfl ?_
      refine th_iconst (v := 1) C dc_L_law_495 th_c_1 ?_
      refine tq_iadd C dc_L_law_496 th_l_0 th_l_1 (fun y1 f1 b1 => ?_)
      refine th_xld (n := 1) C hX dc_L_law_497 rfl (by omega) (by omega) ?_
      refine th_aload_n C dc_L_law_498 rfl rfl ?_
      refine th_iload C dc_L_law_499 rfl ?_
      refine th_iconst (v := 2) C dc_L_law_501 th_c_2 ?_
      refine tq_iadd C dc_L_law_502 th_l_0 th_l_2 (fun y2 f2 b2 => ?_)
      refine th_xld (n := 2) C hX dc_L_law_503 rfl (by omega) (by omega) ?_
      refine tq_callVi C (p_O_global l hl (A := J) J (xs 1) (xs 2) ⟨fk, fun _ _ => rfl⟩) ok_L_87 cl_20 (show 0 < 1 from by omega) rfl (Nat.le_of_ble_eq_true rfl) dc_L_law_504 rfl (fun b1 J2 pm => ?_)
      obtain ⟨pm, f17⟩ := pm
      refine th_istore (lv' := [(0, .inr (some (90, 0))), (1, .inr (some (0, 0))), (2, .inr (some (20, 0))), (3, .inr (some (17, 0))), (4, .inl (0 : Int32)), (5, .inl k1), (6, .inl b1)]) C dc_L_law_507 (by decide) rfl ?_
      rcases pk with ⟨k0, d1, a1⟩ | ⟨k0, d1⟩ <;> rcases pm with ⟨d2, a2, t2⟩ | ⟨d2, t2⟩
      · refine th_aload_n C dc_L_law_509 rfl rfl ?_
        refine tq_callVp C (p_O_thrown l hl J2) ok_L_64 cl_20 (show 0 < 1 from by omega) rfl (Nat.le_of_ble_eq_true rfl) dc_L_law_510 rfl (fun x3 p3 => ?_)
        refine th_iload C dc_L_law_513 rfl ?_
        refine tq_icmp_eq (tgt := 520) C dc_L_law_515 (by decide) rfl rfl (fun c3 => ?_) (fun c3 => absurd (by omega) c3)
        refine th_iload C dc_L_law_520 rfl ?_
        refine tq_if_ne (tgt := 537) C dc_L_law_522 (by decide) rfl (fun c4 => absurd k0 c4) (fun c4 => ?_)
        refine th_aload_n C dc_L_law_525 rfl rfl ?_
        refine th_iconst (v := 0) C dc_L_law_526 th_c_0 ?_
        refine th_lcm (mu := th_m J2) (n := 0) (b := b1) (tgt := 537) C dc_L_law_527 dc_L_law_528 dc_L_law_530 dc_L_law_531 dc_L_law_532 (by decide) rfl (show 0 < 1 from by omega) rfl (fun _ => rfl) (th_ixN th_l_0 (by decide) (show 0 < 1 from by omega)) ((f17 0 0).trans (th_eqi (by omega))) ?_
        refine th_goto (tgt := 856) C dc_L_law_537 (by decide) ?_
        refine th_sub C (lv' := [(0, .inr (some (90, 0))), (1, .inr (some (0, 0))), (2, .inr (some (20, 0))), (3, .inr (some (17, 0))), (4, .inl (0 : Int32))]) th_m57 ?_
        exact tail J2 _ _ (by decide) (by decide)
      · exact absurd d1 d2
      · exact absurd d2 d1
      · refine th_aload_n C dc_L_law_509 rfl rfl ?_
        refine tq_callVp C (p_O_thrown l hl J2) ok_L_64 cl_20 (show 0 < 1 from by omega) rfl (Nat.le_of_ble_eq_true rfl) dc_L_law_510 rfl (fun x3 p3 => ?_)
        refine th_iload C dc_L_law_513 rfl ?_
        refine tq_icmp_eq (tgt := 520) C dc_L_law_515 (by decide) rfl rfl (fun c3 => ?_) (fun c3 => absurd (by omega) c3)
        refine th_iload C dc_L_law_520 rfl ?_
        refine tq_if_ne (tgt := 537) C dc_L_law_522 (by decide) rfl (fun c4 => ?_) (fun c4 => absurd (by omega) c4)
        refine th_goto (tgt := 856) C dc_L_law_537 (by decide) ?_
        refine th_sub C (lv' := [(0, .inr (some (90, 0))), (1, .inr (some (0, 0))), (2, .inr (some (20, 0))), (3, .inr (some (17, 0))), (4, .inl (0 : Int32))]) th_m57 ?_
        exact tail J2 _ _ (by decide) (by decide)
    · refine th_tableIn (tgt := 540) C dc_L_law_39 (by omega) (by omega) (by rw [w]; rfl) (by decide) ?_
      refine th_aload_n C dc_L_law_540 rfl rfl ?_
      refine th_aload_n C dc_L_law_541 rfl rfl ?_
      refine th_iload C dc_L_law_542 rfl ?_
      refine th_iconst (v := 1) C dc_L_law_544 th_c_1 ?_
      refine tq_iadd C dc_L_law_545 th_l_0 th_l_1 (fun y1 f1 b1 => ?_)
      refine th_xld (n := 1) C hX dc_L_law_546 rfl (by omega) (by omega) ?_
      refine th_aload_n C dc_L_law_547 rfl rfl ?_
      refine th_iload C dc_L_law_548 rfl ?_
      refine th_iconst (v := 2) C dc_L_law_550 th_c_2 ?_
      refine tq_iadd C dc_L_law_551 th_l_0 th_l_2 (fun y2 f2 b2 => ?_)
      refine th_xld (n := 2) C hX dc_L_law_552 rfl (by omega) (by omega) ?_
      refine th_aload_n C dc_L_law_553 rfl rfl ?_
      refine th_callW C (q_special l hl (xs 1) (xs 2)) okW_88 rfl (Nat.le_of_ble_eq_true rfl) dc_L_law_554 rfl (fun k1 J pk => ?_)
      obtain ⟨pk, fk⟩ := pk
      refine th_istore (lv' := [(0, .inr (some (90, 0))), (1, .inr (some (0, 0))), (2, .inr (some (20, 0))), (3, .inr (some (17, 0))), (4, .inl (0 : Int32)), (5, .inl k1)]) C dc_L_law_557 (by decide) rfl ?_
      refine th_aload_n C dc_L_law_559 rfl rfl ?_
      refine th_aload_n C dc_L_law_560 rfl rfl ?_
      refine th_iload C dc_L_law_561 rfl ?_
      refine th_iconst (v := 1) C dc_L_law_563 th_c_1 ?_
      refine tq_iadd C dc_L_law_564 th_l_0 th_l_1 (fun y1 f1 b1 => ?_)
      refine th_xld (n := 1) C hX dc_L_law_565 rfl (by omega) (by omega) ?_
      refine th_aload_n C dc_L_law_566 rfl rfl ?_
      refine th_iload C dc_L_law_567 rfl ?_
      refine th_iconst (v := 2) C dc_L_law_569 th_c_2 ?_
      refine tq_iadd C dc_L_law_570 th_l_0 th_l_2 (fun y2 f2 b2 => ?_)
      refine th_xld (n := 2) C hX dc_L_law_571 rfl (by omega) (by omega) ?_
      refine tq_callVi C (p_O_special l hl (A := J) J (xs 1) (xs 2) ⟨fk, fun _ _ => rfl⟩) ok_L_90 cl_20 (show 0 < 1 from by omega) rfl (Nat.le_of_ble_eq_true rfl) dc_L_law_572 rfl (fun b1 J2 pm => ?_)
      obtain ⟨pm, f17⟩ := pm
      refine th_istore (lv' := [(0, .inr (some (90, 0))), (1, .inr (some (0, 0))), (2, .inr (some (20, 0))), (3, .inr (some (17, 0))), (4, .inl (0 : Int32)), (5, .inl k1), (6, .inl b1)]) C dc_L_law_575 (by decide) rfl ?_
      rcases pk with ⟨k0, d1, a1⟩ | ⟨k0, d1⟩ <;> rcases pm with ⟨d2, a2, t2⟩ | ⟨d2, t2⟩
      · refine th_aload_n C dc_L_law_577 rfl rfl ?_
        refine tq_callVp C (p_O_thrown l hl J2) ok_L_64 cl_20 (show 0 < 1 from by omega) rfl (Nat.le_of_ble_eq_true rfl) dc_L_law_578 rfl (fun x3 p3 => ?_)
        refine th_iload C dc_L_law_581 rfl ?_
        refine tq_icmp_eq (tgt := 588) C dc_L_law_583 (by decide) rfl rfl (fun c3 => ?_) (fun c3 => absurd (by omega) c3)
        refine th_iload C dc_L_law_588 rfl ?_
        refine tq_if_ne (tgt := 605) C dc_L_law_590 (by decide) rfl (fun c4 => absurd k0 c4) (fun c4 => ?_)
        refine th_aload_n C dc_L_law_593 rfl rfl ?_
        refine th_iconst (v := 0) C dc_L_law_594 th_c_0 ?_
        refine th_lcm (mu := th_m J2) (n := 0) (b := b1) (tgt := 605) C dc_L_law_595 dc_L_law_596 dc_L_law_598 dc_L_law_599 dc_L_law_600 (by decide) rfl (show 0 < 1 from by omega) rfl (fun _ => rfl) (th_ixN th_l_0 (by decide) (show 0 < 1 from by omega)) ((f17 0 0).trans (th_eqi (by omega))) ?_
        refine th_goto (tgt := 856) C dc_L_law_605 (by decide) ?_
        refine th_sub C (lv' := [(0, .inr (some (90, 0))), (1, .inr (some (0, 0))), (2, .inr (some (20, 0))), (3, .inr (some (17, 0))), (4, .inl (0 : Int32))]) th_m57 ?_
        exact tail J2 _ _ (by decide) (by decide)
      · exact absurd d1 d2
      · exact absurd d2 d1
      · refine th_aload_n C dc_L_law_577 rfl rfl ?_
        refine tq_callVp C (p_O_thrown l hl J2) ok_L_64 cl_20 (show 0 < 1 from by omega) rfl (Nat.le_of_ble_eq_true rfl) dc_L_law_578 rfl (fun x3 p3 => ?_)
        refine th_iload C dc_L_law_581 rfl ?_
        refine tq_icmp_eq (tgt := 588) C dc_L_law_583 (by decide) rfl rfl (fun c3 => ?_) (fun c3 => absurd (by omega) c3)
        refine th_iload C dc_L_law_588 rfl ?_
        refine tq_if_ne (tgt := 605) C dc_L_law_590 (by decide) rfl (fun c4 => ?_) (fun c4 => absurd (by omega) c4)
        refine th_goto (tgt := 856) C dc_L_law_605 (by decide) ?_
        refine th_sub C (lv' := [(0, .inr (some (90, 0))), (1, .inr (some (0, 0))), (2, .inr (some (20, 0))), (3, .inr (some (17, 0))), (4, .inl (0 : Int32))]) th_m57 ?_
        exact tail J2 _ _ (by decide) (by decide)
    · refine th_tableIn (tgt := 608) C dc_L_law_39 (by omega) (by omega) (by rw [w]; rfl) (by decide) ?_
      refine th_aload_n C dc_L_law_608 rfl rfl ?_
      refine th_aload_n C dc_L_law_609 rfl rfl ?_
      refine th_iload C dc_L_law_610 rfl ?_
      refine th_iconst (v := 1) C dc_L_law_612 th_c_1 ?_
      refine tq_iadd C dc_L_law_613 th_l_0 th_l_1 (fun y1 f1 b1 => ?_)
      refine th_xld (n := 1) C hX dc_L_law_614 rfl (by omega) (by omega) ?_
      refine th_aload_n C dc_L_law_615 rfl rfl ?_
      refine th_iload C dc_L_law_616 rfl ?_
      refine th_iconst (v := 2) C dc_L_law_618 th_c_2 ?_
      refine tq_iadd C dc_L_law_619 th_l_0 th_l_2 (fun y2 f2 b2 => ?_)
      refine th_xld (n := 2) C hX dc_L_law_620 rfl (by omega) (by omega) ?_
      refine th_aload_n C dc_L_law_621 rfl rfl ?_
      refine th_callW C (q_look l hl (xs 1) (xs 2)) okW_91 rfl (Nat.le_of_ble_eq_true rfl) dc_L_law_622 rfl (fun k1 J pk => ?_)
      obtain ⟨pk, fk⟩ := pk
      refine th_istore (lv' := [(0, .inr (some (90, 0))), (1, .inr (some (0, 0))), (2, .inr (some (20, 0))), (3, .inr (some (17, 0))), (4, .inl (0 : Int32)), (5, .inl k1)]) C dc_L_law_625 (by decide) rfl ?_
      refine th_aload_n C dc_L_law_627 rfl rfl ?_
      refine th_aload_n C dc_L_law_628 rfl rfl ?_
      refine th_iload C dc_L_law_629 rfl ?_
      refine th_iconst (v := 1) C dc_L_law_631 th_c_1 ?_
      refine tq_iadd C dc_L_law_632 th_l_0 th_l_1 (fun y1 f1 b1 => ?_)
      refine th_xld (n := 1) C hX dc_L_law_633 rfl (by omega) (by omega) ?_
      refine th_aload_n C dc_L_law_634 rfl rfl ?_
      refine th_iload C dc_L_law_635 rfl ?_
      refine th_iconst (v := 2) C dc_L_law_637 th_c_2 ?_
      refine tq_iadd C dc_L_law_638 th_l_0 th_l_2 (fun y2 f2 b2 => ?_)
      refine th_xld (n := 2) C hX dc_L_law_639 rfl (by omega) (by omega) ?_
      refine tq_callVi C (p_O_look l hl (A := J) J (xs 1) (xs 2) ⟨fk, fun _ _ => rfl⟩) ok_L_93 cl_20 (show 0 < 1 from by omega) rfl (Nat.le_of_ble_eq_true rfl) dc_L_law_640 rfl (fun b1 J2 pm => ?_)
      obtain ⟨pm, f17⟩ := pm
      refine th_istore (lv' := [(0, .inr (some (90, 0))), (1, .inr (some (0, 0))), (2, .inr (some (20, 0))), (3, .inr (some (17, 0))), (4, .inl (0 : Int32)), (5, .inl k1), (6, .inl b1)]) C dc_L_law_643 (by decide) rfl ?_
      rcases pk with ⟨k0, d1, a1⟩ | ⟨k0, d1⟩ <;> rcases pm with ⟨d2, a2, t2⟩ | ⟨d2, t2⟩
      · refine th_aload_n C dc_L_law_645 rfl rfl ?_
        refine tq_callVp C (p_O_thrown l hl J2) ok_L_64 cl_20 (show 0 < 1 from by omega) rfl (Nat.le_of_ble_eq_true rfl) dc_L_law_646 rfl (fun x3 p3 => ?_)
        refine th_iload C dc_L_law_649 rfl ?_
        refine tq_icmp_eq (tgt := 656) C dc_L_law_651 (by decide) rfl rfl (fun c3 => ?_) (fun c3 => absurd (by omega) c3)
        refine th_iload C dc_L_law_656 rfl ?_
        refine tq_if_ne (tgt := 673) C dc_L_law_658 (by decide) rfl (fun c4 => absurd k0 c4) (fun c4 => ?_)
        refine th_aload_n C dc_L_law_661 rfl rfl ?_
        refine th_iconst (v := 0) C dc_L_law_662 th_c_0 ?_
        refine th_lcm (mu := th_m J2) (n := 0) (b := b1) (tgt := 673) C dc_L_law_663 dc_L_law_664 dc_L_law_666 dc_L_law_667 dc_L_law_668 (by decide) rfl (show 0 < 1 from by omega) rfl (fun _ => rfl) (th_ixN th_l_0 (by decide) (show 0 < 1 from by omega)) ((f17 0 0).trans (th_eqi (by omega))) ?_
        refine th_goto (tgt := 856) C dc_L_law_673 (by decide) ?_
        refine th_sub C (lv' := [(0, .inr (some (90, 0))), (1, .inr (some (0, 0))), (2, .inr (some (20, 0))), (3, .inr (some (17, 0))), (4, .inl (0 : Int32))]) th_m57 ?_
        exact tail J2 _ _ (by decide) (by decide)
      · exact absurd d1 d2
      · exact absurd d2 d1
      · refine th_aload_n C dc_L_law_645 rfl rfl ?_
        refine tq_callVp C (p_O_thrown l hl J2) ok_L_64 cl_20 (show 0 < 1 from by omega) rfl (Nat.le_of_ble_eq_true rfl) dc_L_law_646 rfl (fun x3 p3 => ?_)
        refine th_iload C dc_L_law_649 rfl ?_
        refine tq_icmp_eq (tgt := 656) C dc_L_law_651 (by decide) rfl rfl (fun c3 => ?_) (fun c3 => absurd (by omega) c3)
        refine th_iload C dc_L_law_656 rfl ?_
        refine tq_if_ne (tgt := 673) C dc_L_law_658 (by decide) rfl (fun c4 => ?_) (fun c4 => absurd (by omega) c4)
        refine th_goto (tgt := 856) C dc_L_law_673 (by decide) ?_
        refine th_sub C (lv' := [(0, .inr (some (90, 0))), (1, .inr (some (0, 0))), (2, .inr (some (20, 0))), (3, .inr (some (17, 0))), (4, .inl (0 : Int32))]) th_m57 ?_
        exact tail J2 _ _ (by decide) (by decide)
    · refine th_tableIn (tgt := 676) C dc_L_law_39 (by omega) (by omega) (by rw [w]; rfl) (by decide) ?_
      refine th_aload_n C dc_L_law_676 rfl rfl ?_
      refine th_aload_n C dc_L_law_677 rfl rfl ?_
      refine th_iload C dc_L_law_678 rfl ?_
      refine th_iconst (v := 1) C dc_L_law_680 th_c_1 ?_
      refine tq_iadd C dc_L_law_681 th_l_0 th_l_1 (fun y1 f1 b1 => ?_)
      refine th_xld (n := 1) C hX dc_L_law_682 rfl (by omega) (by omega) ?_
      refine th_aload_n C dc_L_law_683 rfl rfl ?_
      refine th_iload C dc_L_law_684 rfl ?_
      refine th_iconst (v := 2) C dc_L_law_686 th_c_2 ?_
      refine tq_iadd C dc_L_law_687 th_l_0 th_l_2 (fun y2 f2 b2 => ?_)
      refine th_xld (n := 2) C hX dc_L_law_688 rfl (by omega) (by omega) ?_
      refine th_aload_n C dc_L_law_689 rfl rfl ?_
      refine th_callW C (q_lock l hl (xs 1) (xs 2)) okW_94 rfl (Nat.le_of_ble_eq_true rfl) dc_L_law_690 rfl (fun k1 J pk => ?_)
      obtain ⟨pk, fk⟩ := pk
      refine th_istore (lv' := [(0, .inr (some (90, 0))), (1, .inr (some (0, 0))), (2, .inr (some (20, 0))), (3, .inr (some (17, 0))), (4, .inl (0 : Int32)), (5, .inl k1)]) C dc_L_law_693 (by decide) rfl ?_
      refine th_aload_n C dc_L_law_695 rfl rfl ?_
      refine th_aload_n C dc_L_law_696 rfl rfl ?_
      refine th_iload C dc_L_law_697 rfl ?_
      refine th_iconst (v := 1) C dc_L_law_699 th_c_1 ?_
      refine tq_iadd C dc_L_law_700 th_l_0 th_l_1 (fun y1 f1 b1 => ?_)
      refine th_xld (n := 1) C hX dc_L_law_701 rfl (by omega) (by omega) ?_
      refine th_aload_n C dc_L_law_702 rfl rfl ?_
      refine th_iload C dc_L_law_703 rfl ?_
      refine th_iconst (v := 2) C dc_L_law_705 th_c_2 ?_
      refine tq_iadd C dc_L_law_706 th_l_0 th_l_2 (fun y2 f2 b2 => ?_)
      refine th_xld (n := 2) C hX dc_L_law_707 rfl (by omega) (by omega) ?_
      refine tq_callVi C (p_O_lock l hl (A := J) J (xs 1) (xs 2) ⟨fk, fun _ _ => rfl⟩) ok_L_96 cl_20 (show 0 < 1 from by omega) rfl (Nat.le_of_ble_eq_true rfl) dc_L_law_708 rfl (fun b1 J2 pm => ?_)
      obtain ⟨pm, f17⟩ := pm
      refine th_istore (lv' := [(0, .inr (some (90, 0))), (1, .inr (some (0, 0))), (2, .inr (some (20, 0))), (3, .inr (some (17, 0))), (4, .inl (0 : Int32)), (5, .inl k1), (6, .inl b1)]) C dc_L_law_711 (by decide) rfl ?_
      rcases pk with ⟨k0, d1, a1⟩ | ⟨k0, d1⟩ <;> rcases pm with ⟨d2, a2, t2⟩ | ⟨d2, t2⟩
      · refine th_aload_n C dc_L_law_713 rfl rfl ?_
        refine tq_callVp C (p_O_thrown l hl J2) ok_L_64 cl_20 (show 0 < 1 from by omega) rfl (Nat.le_of_ble_eq_true rfl) dc_L_law_714 rfl (fun x3 p3 => ?_)
        refine th_iload C dc_L_law_717 rfl ?_
        refine tq_icmp_eq (tgt := 724) C dc_L_law_719 (by decide) rfl rfl (fun c3 => ?_) (fun c3 => absurd (by omega) c3)
        refine th_iload C dc_L_law_724 rfl ?_
        refine tq_if_ne (tgt := 741) C dc_L_law_726 (by decide) rfl (fun c4 => absurd k0 c4) (fun c4 => ?_)
        refine th_aload_n C dc_L_law_729 rfl rfl ?_
        refine th_iconst (v := 0) C dc_L_law_730 th_c_0 ?_
        refine th_lcm (mu := th_m J2) (n := 0) (b := b1) (tgt := 741) C dc_L_law_731 dc_L_law_732 dc_L_law_734 dc_L_law_735 dc_L_law_736 (by decide) rfl (show 0 < 1 from by omega) rfl (fun _ => rfl) (th_ixN th_l_0 (by decide) (show 0 < 1 from by omega)) ((f17 0 0).trans (th_eqi (by omega))) ?_
        refine th_goto (tgt := 856) C dc_L_law_741 (by decide) ?_
        refine th_sub C (lv' := [(0, .inr (some (90, 0))), (1, .inr (some (0, 0))), (2, .inr (some (20, 0))), (3, .inr (some (17, 0))), (4, .inl (0 : Int32))]) th_m57 ?_
        exact tail J2 _ _ (by decide) (by decide)
      · exact absurd d1 d2
      · exact absurd d2 d1
      · refine th_aload_n C dc_L_law_713 rfl rfl ?_
        refine tq_callVp C (p_O_thrown l hl J2) ok_L_64 cl_20 (show 0 < 1 from by omega) rfl (Nat.le_of_ble_eq_true rfl) dc_L_law_714 rfl (fun x3 p3 => ?_)
        refine th_iload C dc_L_law_717 rfl ?_
        refine tq_icmp_eq (tgt := 724) C dc_L_law_719 (by decide) rfl rfl (fun c3 => ?_) (fun c3 => absurd (by omega) c3)
        refine th_iload C dc_L_law_724 rfl ?_
        refine tq_if_ne (tgt := 741) C dc_L_law_726 (by decide) rfl (fun c4 => ?_) (fun c4 => absurd (by omega) c4)
        refine th_goto (tgt := 856) C dc_L_law_741 (by decide) ?_
        refine th_sub C (lv' := [(0, .inr (some (90, 0))), (1, .inr (some (0, 0))), (2, .inr (some (20, 0))), (3, .inr (some (17, 0))), (4, .inl (0 : Int32))]) th_m57 ?_
        exact tail J2 _ _ (by decide) (by decide)
    · refine th_tableIn (tgt := 744) C dc_L_law_39 (by omega) (by omega) (by rw [w]; rfl) (by decide) ?_
      refine th_aload_n C dc_L_law_744 rfl rfl ?_
      refine th_aload_n C dc_L_law_745 rfl rfl ?_
      refine th_iload C dc_L_law_746 rfl ?_
      refine th_iconst (v := 1) C dc_L_law_748 th_c_1 ?_
      refine tq_iadd C dc_L_law_749 th_l_0 th_l_1 (fun y1 f1 b1 => ?_)
      refine th_xld (n := 1) C hX dc_L_law_750 rfl (by omega) (by omega) ?_
      refine th_aload_n C dc_L_law_751 rfl rfl ?_
      refine th_callW C (q_said l hl (xs 1)) okW_97 rfl (Nat.le_of_ble_eq_true rfl) dc_L_law_752 rfl (fun k1 J pk => ?_)
      obtain ⟨pk, fk⟩ := pk
      refine th_istore (lv' := [(0, .inr (some (90, 0))), (1, .inr (some (0, 0))), (2, .inr (some (20, 0))), (3, .inr (some (17, 0))), (4, .inl (0 : Int32)), (5, .inl k1)]) C dc_L_law_755 (by decide) rfl ?_
      refine th_aload_n C dc_L_law_757 rfl rfl ?_
      refine th_aload_n C dc_L_law_758 rfl rfl ?_
      refine th_iload C dc_L_law_759 rfl ?_
      refine th_iconst (v := 1) C dc_L_law_761 th_c_1 ?_
      refine tq_iadd C dc_L_law_762 th_l_0 th_l_1 (fun y1 f1 b1 => ?_)
      refine th_xld (n := 1) C hX dc_L_law_763 rfl (by omega) (by omega) ?_
      refine tq_callVi C (p_O_said l hl (A := J) J (xs 1) ⟨fk, fun _ _ => rfl⟩) ok_L_99 cl_20 (show 0 < 1 from by omega) rfl (Nat.le_of_ble_eq_true rfl) dc_L_law_764 rfl (fun b1 J2 pm => ?_)
      obtain ⟨pm, f17⟩ := pm
      refine th_istore (lv' := [(0, .inr (some (90, 0))), (1, .inr (some (0, 0))), (2, .inr (some (20, 0))), (3, .inr (some (17, 0))), (4, .inl (0 : Int32)), (5, .inl k1), (6, .inl b1)]) C dc_L_law_767 (by decide) rfl ?_
      rcases pk with ⟨k0, d1, a1⟩ | ⟨k0, d1⟩ <;> rcases pm with ⟨d2, a2, t2⟩ | ⟨d2, t2⟩
      · exact d1.elim
      · exact absurd d1 d2
      · exact absurd d2 d1
      · refine th_aload_n C dc_L_law_769 rfl rfl ?_
        refine tq_callVp C (p_O_thrown l hl J2) ok_L_64 cl_20 (show 0 < 1 from by omega) rfl (Nat.le_of_ble_eq_true rfl) dc_L_law_770 rfl (fun x3 p3 => ?_)
        refine th_iload C dc_L_law_773 rfl ?_
        refine tq_icmp_eq (tgt := 780) C dc_L_law_775 (by decide) rfl rfl (fun c3 => ?_) (fun c3 => absurd (by omega) c3)
        refine th_iload C dc_L_law_780 rfl ?_
        refine tq_if_ne (tgt := 797) C dc_L_law_782 (by decide) rfl (fun c4 => ?_) (fun c4 => absurd (by omega) c4)
        refine th_goto (tgt := 856) C dc_L_law_797 (by decide) ?_
        refine th_sub C (lv' := [(0, .inr (some (90, 0))), (1, .inr (some (0, 0))), (2, .inr (some (20, 0))), (3, .inr (some (17, 0))), (4, .inl (0 : Int32))]) th_m57 ?_
        exact tail J2 _ _ (by decide) (by decide)
    · refine th_tableIn (tgt := 800) C dc_L_law_39 (by omega) (by omega) (by rw [w]; rfl) (by decide) ?_
      refine th_aload_n C dc_L_law_800 rfl rfl ?_
      refine th_aload_n C dc_L_law_801 rfl rfl ?_
      refine th_iload C dc_L_law_802 rfl ?_
      refine th_iconst (v := 1) C dc_L_law_804 th_c_1 ?_
      refine tq_iadd C dc_L_law_805 th_l_0 th_l_1 (fun y1 f1 b1 => ?_)
      refine th_xld (n := 1) C hX dc_L_law_806 rfl (by omega) (by omega) ?_
      refine th_aload_n C dc_L_law_807 rfl rfl ?_
      refine th_callW C (q_count l hl (xs 1)) okW_100 rfl (Nat.le_of_ble_eq_true rfl) dc_L_law_808 rfl (fun k1 J pk => ?_)
      obtain ⟨pk, fk⟩ := pk
      refine th_istore (lv' := [(0, .inr (some (90, 0))), (1, .inr (some (0, 0))), (2, .inr (some (20, 0))), (3, .inr (some (17, 0))), (4, .inl (0 : Int32)), (5, .inl k1)]) C dc_L_law_811 (by decide) rfl ?_
      refine th_aload_n C dc_L_law_813 rfl rfl ?_
      refine th_aload_n C dc_L_law_814 rfl rfl ?_
      refine th_iload C dc_L_law_815 rfl ?_
      refine th_iconst (v := 1) C dc_L_law_817 th_c_1 ?_
      refine tq_iadd C dc_L_law_818 th_l_0 th_l_1 (fun y1 f1 b1 => ?_)
      refine th_xld (n := 1) C hX dc_L_law_819 rfl (by omega) (by omega) ?_
      refine tq_callVi C (p_O_count l hl (A := J) J (xs 1) ⟨fk, fun _ _ => rfl⟩) ok_L_102 cl_20 (show 0 < 1 from by omega) rfl (Nat.le_of_ble_eq_true rfl) dc_L_law_820 rfl (fun b1 J2 pm => ?_)
      obtain ⟨pm, f17⟩ := pm
      refine th_istore (lv' := [(0, .inr (some (90, 0))), (1, .inr (some (0, 0))), (2, .inr (some (20, 0))), (3, .inr (some (17, 0))), (4, .inl (0 : Int32)), (5, .inl k1), (6, .inl b1)]) C dc_L_law_823 (by decide) rfl ?_
      rcases pk with ⟨k0, d1, a1⟩ | ⟨k0, d1⟩ <;> rcases pm with ⟨d2, a2, t2⟩ | ⟨d2, t2⟩
      · refine th_aload_n C dc_L_law_825 rfl rfl ?_
        refine tq_callVp C (p_O_thrown l hl J2) ok_L_64 cl_20 (show 0 < 1 from by omega) rfl (Nat.le_of_ble_eq_true rfl) dc_L_law_826 rfl (fun x3 p3 => ?_)
        refine th_iload C dc_L_law_829 rfl ?_
        refine tq_icmp_eq (tgt := 836) C dc_L_law_831 (by decide) rfl rfl (fun c3 => ?_) (fun c3 => absurd (by omega) c3)
        refine th_iload C dc_L_law_836 rfl ?_
        refine tq_if_ne (tgt := 853) C dc_L_law_838 (by decide) rfl (fun c4 => absurd k0 c4) (fun c4 => ?_)
        refine th_aload_n C dc_L_law_841 rfl rfl ?_
        refine th_iconst (v := 0) C dc_L_law_842 th_c_0 ?_
        refine th_lcm (mu := th_m J2) (n := 0) (b := b1) (tgt := 853) C dc_L_law_843 dc_L_law_844 dc_L_law_846 dc_L_law_847 dc_L_law_848 (by decide) rfl (show 0 < 1 from by omega) rfl (fun _ => rfl) (th_ixN th_l_0 (by decide) (show 0 < 1 from by omega)) ((f17 0 0).trans (th_eqi (by omega))) ?_
        refine th_goto (tgt := 856) C dc_L_law_853 (by decide) ?_
        refine th_sub C (lv' := [(0, .inr (some (90, 0))), (1, .inr (some (0, 0))), (2, .inr (some (20, 0))), (3, .inr (some (17, 0))), (4, .inl (0 : Int32))]) th_m57 ?_
        exact tail J2 _ _ (by decide) (by decide)
      · exact absurd d1 d2
      · exact absurd d2 d1
      · refine th_aload_n C dc_L_law_825 rfl rfl ?_
        refine tq_callVp C (p_O_thrown l hl J2) ok_L_64 cl_20 (show 0 < 1 from by omega) rfl (Nat.le_of_ble_eq_true rfl) dc_L_law_826 rfl (fun x3 p3 => ?_)
        refine th_iload C dc_L_law_829 rfl ?_
        refine tq_icmp_eq (tgt := 836) C dc_L_law_831 (by decide) rfl rfl (fun c3 => ?_) (fun c3 => absurd (by omega) c3)
        refine th_iload C dc_L_law_836 rfl ?_
        refine tq_if_ne (tgt := 853) C dc_L_law_838 (by decide) rfl (fun c4 => ?_) (fun c4 => absurd (by omega) c4)
        refine th_goto (tgt := 856) C dc_L_law_853 (by decide) ?_
        refine th_sub C (lv' := [(0, .inr (some (90, 0))), (1, .inr (some (0, 0))), (2, .inr (some (20, 0))), (3, .inr (some (17, 0))), (4, .inl (0 : Int32))]) th_m57 ?_
        exact tail J2 _ _ (by decide) (by decide)
    · refine th_tableOut (tgt := 856) C dc_L_law_39 w (by decide) ?_
      exact tail th_I0 _ _ (by decide) (by decide)
end
section
theorem th_eqE {args : Array Value} {s : State} {t : Term} {z : Int32} (h : (Cond.eq t (.int z)).before args s = true) : t.eval args s none [] s = some (.int z) := by
  cases hv : t.eval args s none [] s with
  | none => simp [Cond.before, Cond.holds, Cond.value, hv] at h
  | some w =>
    have hz : (Term.int z).eval args s none [] s = some (.int z) := rfl
    simp only [Cond.before, Cond.holds, Cond.value, hv, hz] at h
    cases w <;> simp_all
theorem th_len31 {args : Array Value} {s : State} {t : Term} {v : Value} {a : Addr} {cell : Cell} (hv : (Term.length t).eval args s none [] s = some v) (ht : t.eval args s none [] s = some (.ref a)) (harr : s.arrayAt? a = some cell) : cell.slots.size < 2 ^ 31 := by
  simp only [Term.eval, ht, harr, Option.bind_eq_bind, Option.bind_some] at hv
  by_cases hlt : cell.slots.size < 2147483648
  · exact hlt
  · simp [hlt] at hv
theorem th_stat {args : Array Value} {s : State} {C n : String} {xs : List Int32} {A : Nat → Prop} (hxs : xs.length < 1000) (hl : (Cond.laysStatic C n "[I").before args s = true) (hini : (Cond.initialized C).before args s = true) (h1 : (Cond.arrayOf (.static C n "[I") .int).before args s = true) (h2 : (Cond.eq (.length (.static C n "[I")) (.int (Int32.ofNat xs.length))).before args s = true)
    (h3 : ∀ j, j < xs.length → (Cond.eq (.elem (.static C n "[I") (.int (Int32.ofNat j))) (.int (xs.getD j 0))).before args s = true) (hA : ∀ a : Nat, a < s.heap.size → ¬ A a) : ∃ a : Nat, va_Z C n "[I" (.ref a) A s s.heap ∧ va_X a xs.length (fun k => xs.getD k 0) s s.heap ∧ a < s.heap.size := by
  have hv := th_eqE h2
  obtain ⟨a, cell, ht, harr, hv2⟩ := Term.length_spec hv
  have hsz : cell.slots.size < 2 ^ 31 := th_len31 hv ht harr
  obtain ⟨hcell, hkn, -, -⟩ := State.arrayAt?_spec harr
  have hof := (Cond.arrayOf_spec h1 ht hcell).1
  have hlen : cell.slots.size = xs.length := by
    have e : Int32.ofNat xs.length = Int32.ofNat cell.slots.size := by
      injection hv2
    have q1 : cell.slots.size ≤ xs.length := (Int32.ofNat_le_ofNat hsz (by omega)).mp (by rw [e]; exact Int32.le_refl _)
    have q2 : xs.length ≤ cell.slots.size := (Int32.ofNat_le_ofNat (by omega) hsz).mp (by rw [e]; exact Int32.le_refl _)
    omega
  refine ⟨a, va_Zof hl hini ht hA, ⟨cell, hcell, hof, hkn, hlen, fun j hj => ?_⟩, (Array.getElem?_eq_some_iff.mp hcell).1⟩
  obtain ⟨a2, j2, cell2, g1, g2, g3, -, g5⟩ := Term.elem_spec (th_eqE (h3 j hj))
  cases Option.some.inj (ht.symm.trans g1)
  cases Option.some.inj (harr.symm.trans g3)
  have g2 : some (Value.int (Int32.ofNat j)) = some (Value.int j2) := g2
  cases g2
  rw [show (Int32.ofNat j).toNatClampNeg = j from nI_clamp (by omega)] at g5
  exact g5
end
section
def R_law : String := "ThreadHallLaw"
def lw_P (b : Addr) (xs : List Int32) (args : Array Value) (s : State) : Prop := args = #[.ref b] ∧ s.IntsAt b xs ∧ xs.length ≤ 5 ∧ (Jvm.Cond.and given_1 narrow_1).before args s = true
def lw_Q (_ : Array Value) (s : State) (o : Outcome) (t : State) : Prop := o = .returned (some (.int 1)) ∧ Framed s o t [] 600002 7302232
def lw_Z (below : List Frame) (a : Array Value) (s : State) : State → Prop := fun t => ∃ o, t.status = .running ∧ Ended t below o ∧ lw_Q a s o t
theorem lw_ret {p : Program} {l : Launch} {e : Env} {s : State} {m : MethodId} {below : List Frame} {meth : Method} {c : Code} {b : Nat} (hx : p.tables.exec = Jvm.exec) (hb : c.code = code) (hr : meth.sig.returnType = ret) (hlocks : meth.locks = false) {pc : Nat} {H : Heap} {ls : Array Slot} (hdg : decode code pc = .ok (.ireturn, 1)) : W p l e room_1 s m #[Value.ref b] below meth c H [] 600002 7302232 (lw_Z below #[Value.ref b] s) (F0 m pc ls [.int 1]) := by
  intro T hT X
  obtain ⟨fs, hret, hrun, hended, hW, hframe⟩ := X.leave (v := some (.int 1)) (hlocks := hlocks) (fun h => by rw [hr] at h; cases h)
  have hmeth' : T.vm.method? m = some meth := X.method'
  refine ⟨T.setFrames fs, ?_, .returned (some (.int 1)), hrun, hended, rfl, ⟨_, rfl⟩, hW, hframe⟩
  jvm_step X.here [X.here.top, hx, hb, hdg, hmeth', hr, ret, narrow_b1]
  (try refine ⟨rfl, ?_⟩); (try refine ⟨rfl, ?_⟩)
  first | (intro acts; rw [hret _ acts rfl rfl rfl]) | rw [hret _ _ rfl rfl rfl]
  exact Steps.refl _
def lw_At (p : Program) (s : State) (m : MethodId) (meth : Method) (c : Code) (b L : Nat) (xs : Nat → Int32) : Prop :=
  p.tables.exec = Jvm.exec ∧ c.code = code ∧ meth.sig.returnType = ret ∧ c.maxLocals = 7 ∧ s.vm.findClass R_law = some m.cls ∧ (∀ w ∈ lw_tbl, w.before #[Value.ref b] s = true) ∧ va_X b L xs s s.heap ∧ b < s.heap.size ∧ meth.locks = false ∧ (Jvm.Cond.and given_1 narrow_1).before #[Value.ref b] s = true
end
section
set_option maxRecDepth 100000 in
set_option maxHeartbeats 4000000 in
theorem whole_start {p : Program} {e : Env} {s : State} {m : MethodId} {below : List Frame} {meth : Method} {c : Code} (l : Launch) (hl : l.stackTraces = false) {b L : Nat} {xs : Nat → Int32} (hL : L ≤ 5) (C0 : lw_At p s m meth c b L xs) : W p l e room_1 s m #[Value.ref b] below meth c s.heap [] 0 0 (lw_Z below #[Value.ref b] s) (entryFrame m ([Value.ref b] : List Value).toArray 7) := by
  obtain ⟨hx, hb, hr, hml, hown, hts, hX, hbl, hlocks, hgv⟩ := C0
  have hB : ∀ w ∈ th_B, w.before #[Value.ref b] s = true := fun w h => hts w (List.mem_filter.mp h).1
  have hs := flat_of_before _ hgv
  have hA : ∀ a : Nat, a < s.heap.size → ¬ (fun q : Nat => s.heap.size ≤ q) a := fun a h => Nat.not_le.mpr h
  obtain ⟨c0, i0, h0⟩ := u_known (n := 3) hB cl_16.2.2.1 (hB _ (tb 202 (by decide +kernel) rfl))
  obtain ⟨c1, i1, h1⟩ := u_known (n := 3) hB cl_11.2.2.1 (hB _ (tb 100 (by decide +kernel) rfl))
  obtain ⟨c2, i2, h2⟩ := u_known (n := 4) hB cl_7.2.2.1 (hB _ (tb 76 (by decide +kernel) rfl))
  obtain ⟨c3, i3, h3⟩ := u_known (n := 2) hB cl_14.2.2.1 (hB _ (tb 120 (by decide +kernel) rfl))
  obtain ⟨c4, i4, h4⟩ := u_known (n := 18) hB cl_6.2.2.1 (hB _ (tb 70 (by decide +kernel) rfl))
  obtain ⟨c5, i5, h5⟩ := u_known (n := 12) hB cl_0.2.2.1 (hB _ (tb 61 (by decide +kernel) rfl))
  obtain ⟨c6, i6, h6⟩ := u_known (n := 36) hB cl_20.2.2.1 (hB _ (tb 623 (by decide +kernel) rfl))
  obtain ⟨D, hD⟩ : ∃ D : va_G, ∀ (k : Nat) (q : vw_C), th_Cl[k]? = some q → u_Kn s q.1 q.2.1 q.2.2 (D.1 k) (D.2 k) := by
    refine ⟨(fun k => if k = 0 then c0 else if k = 1 then c1 else if k = 2 then c2 else if k = 3 then c3 else if k = 4 then c4 else if k = 5 then c5 else c6, fun k => if k = 0 then i0 else if k = 1 then i1 else if k = 2 then i2 else if k = 3 then i3 else if k = 4 then i4 else if k = 5 then i5 else i6), fun k q hq => ?_⟩
    match k, hq with
    | 0, hq => cases hq; exact h0
    | 1, hq => cases hq; exact h1
    | 2, hq => cases hq; exact h2
    | 3, hq => cases hq; exact h3
    | 4, hq => cases hq; exact h4
    | 5, hq => cases hq; exact h5
    | 6, hq => cases hq; exact h6
    | k + 7, hq => simp [th_Cl] at hq
  obtain ⟨a0, ka0, p0, f0, g0, e0⟩ := Cond.arrayClass_spec (type := .int) (hts (Cond.arrayClass .int) (List.mem_of_getElem? (i := 98) (by decide +kernel)))
  obtain ⟨a1, ka1, p1, f1, g1, e1⟩ := Cond.arrayClass_spec (type := .boolean) (hts (Cond.arrayClass .boolean) (List.mem_of_getElem? (i := 737) (by decide +kernel)))
  have w2 := hts (Cond.arrayOver (.object "ThreadHall$Strand")) (List.mem_of_getElem? (i := 69) (by decide +kernel))
  obtain ⟨p2, a2, ka2, r2, -, g2, e2, f2⟩ := Cond.arrayOver_spec w2
  have w3 := hts (Cond.arrayOver (.object "ThreadHall$Mutex")) (List.mem_of_getElem? (i := 201) (by decide +kernel))
  obtain ⟨p3, a3, ka3, r3, -, g3, e3, f3⟩ := Cond.arrayOver_spec w3
  have w4 := hts (Cond.arrayOver (.object "ThreadHall$Row")) (List.mem_of_getElem? (i := 223) (by decide +kernel))
  obtain ⟨p4, a4, ka4, r4, -, g4, e4, f4⟩ := Cond.arrayOver_spec w4
  obtain ⟨a5, ka5, p5, f5, g5, e5⟩ := Cond.arrayClass_spec (type := .long) (hts (Cond.arrayClass .long) (List.mem_of_getElem? (i := 884) (by decide +kernel)))
  obtain ⟨cA, hcA⟩ : ∃ cA : Nat → ClassId, ∀ (k : Nat) (q : ClassId × FieldType), (th_ty cA)[k]? = some q → ArrOfT s q.1 q.2 ∧ va_RA s q.1 q.2 := by
    refine ⟨fun k => if k = 0 then a0 else if k = 1 then a1 else if k = 2 then a2 else if k = 3 then a3 else if k = 4 then a4 else a5, fun k q hq => ?_⟩
    match k, hq with
    | 0, hq => cases hq; exact ⟨fun n z => ⟨fun k h => (by cases h), ka0, g0, p0, e0⟩, f0⟩
    | 1, hq => cases hq; exact ⟨fun n z => ⟨fun k h => (by cases h), ka1, g1, p1, e1⟩, f1⟩
    | 2, hq => cases hq; exact ⟨fun n z => ⟨fun k h => (by cases h), ka2, g2, p2, e2⟩, ⟨ka2, p2, g2, e2, r2, f2⟩⟩
    | 3, hq => cases hq; exact ⟨fun n z => ⟨fun k h => (by cases h), ka3, g3, p3, e3⟩, ⟨ka3, p3, g3, e3, r3, f3⟩⟩
    | 4, hq => cases hq; exact ⟨fun n z => ⟨fun k h => (by cases h), ka4, g4, p4, e4⟩, ⟨ka4, p4, g4, e4, r4, f4⟩⟩
    | 5, hq => cases hq; exact ⟨fun n z => ⟨fun k h => (by cases h), ka5, g5, p5, e5⟩, f5⟩
    | k + 6, hq => simp [th_ty] at hq
  obtain ⟨s91, z91, x91, l91⟩ := th_stat (C := "ThreadHall") (n := "FIRST_VALUES") (xs := th_s91.2.2.2) (A := fun q => s.heap.size ≤ q) (by decide) (hts (Cond.laysStatic "ThreadHall" "FIRST_VALUES" "[I") (List.mem_of_getElem? (i := 342) (by decide +kernel))) (hB _ (tb 47 (by decide +kernel) rfl)) (hs _ (by decide +kernel)) (hs _ (by decide +kernel)) (fun j hj => hs _ ((by decide +kernel : ∀ j, j < th_s91.2.2.2.length → Cond.eq (.elem (.static "ThreadHall" "FIRST_VALUES" "[I") (.int (Int32.ofNat j))) (.int (th_s91.2.2.2.getD j 0)) ∈ flatC (Jvm.Cond.and given_1 narrow_1)) j hj)) hA
  obtain ⟨s92, z92, x92, l92⟩ := th_stat (C := "ThreadHall") (n := "SECOND_VALUES") (xs := th_s92.2.2.2) (A := fun q => s.heap.size ≤ q) (by decide) (hts (Cond.laysStatic "ThreadHall" "SECOND_VALUES" "[I") (List.mem_of_getElem? (i := 347) (by decide +kernel))) (hB _ (tb 47 (by decide +kernel) rfl)) (hs _ (by decide +kernel)) (hs _ (by decide +kernel)) (fun j hj => hs _ ((by decide +kernel : ∀ j, j < th_s92.2.2.2.length → Cond.eq (.elem (.static "ThreadHall" "SECOND_VALUES" "[I") (.int (Int32.ofNat j))) (.int (th_s92.2.2.2.getD j 0)) ∈ flatC (Jvm.Cond.and given_1 narrow_1)) j hj)) hA
  let al : th_A := fun t i => if t = 90 then b else if t = 91 then s91 else if t = 92 then s92 else s.heap.size + th_ad t i
  have hal : th_aok s.heap.size al := fun t i ht => by show (if t = 90 then b else if t = 91 then s91 else if t = 92 then s92 else s.heap.size + th_ad t i) = _; rw [if_neg (by omega), if_neg (by omega), if_neg (by omega)]
  have hao : ∀ q ∈ th_AO, va_AO q s := by
    intro q hq
    rcases List.mem_cons.mp hq with rfl | hq
    · exact va_AO.of w2
    · rcases List.mem_cons.mp hq with rfl | hq
      · exact va_AO.of w3
      · rcases List.mem_cons.mp hq with rfl | hq
        · exact va_AO.of w4
        · exact absurd hq List.not_mem_nil
  have hST : th_S s.heap.size al s s.heap := by
    refine ⟨⟨(vx_Zqof (hts (Cond.laysStatic Bundle.tN "UNASSIGNED_STACK" Bundle.steD) (List.mem_of_getElem? (i := 305) (by decide +kernel))) (hB (Cond.initialized Bundle.tN) (tb 54 (by decide +kernel) rfl)) (hs _ (by decide +kernel)) hA), (vx_Zqof (hts (Cond.laysStatic Bundle.tN "SUPPRESSED_SENTINEL" Bundle.listD) (List.mem_of_getElem? (i := 307) (by decide +kernel))) (hB (Cond.initialized Bundle.tN) (tb 54 (by decide +kernel) rfl)) (hs _ (by decide +kernel)) hA), hao⟩, fun w hw => va_Nw.of (th_nk_ot (List.mem_filter.mp hw).2) (hts w (List.mem_filter.mp hw).1), fun q hq => va_Nc.of (hs _ ((by decide +kernel : ∀ q ∈ th_NC, Cond.not (.castable q.1 q.2) ∈ flatC (Jvm.Cond.and given_1 narrow_1)) q hq)), fun q hq => ?_⟩
    rcases List.mem_cons.mp hq with rfl | hq
    · exact ⟨z91, x91, Nat.not_le.mpr l91⟩
    · rcases List.mem_cons.mp hq with rfl | hq
      · exact ⟨z92, x92, Nat.not_le.mpr l92⟩
      · exact absurd hq List.not_mem_nil
  have hbody := law_body l hl (z := (p, e, room_1, s, m, #[Value.ref b], below, meth, c, lw_Z below #[Value.ref b] s, D, cA, s.heap.size, al)) (rt := ret) (tb0 := c.exceptionTable.toList) (L := L) (xs := xs) ⟨hx, hb, hml, hown, hB, hlocks, ⟨hD, hcA⟩, hST, Nat.le_refl _, rfl, hr, rfl, hl, hal⟩ ⟨hX, hbl, Nat.not_le.mpr hbl⟩ hL
    (fun pc lv mu kc ks hd hkc hks H locs ls hw hS hl' => W.widen hkc hks (va_forget (fun q hq => hS.2.2 q hq) (lw_ret hx hb hr hlocks hd)))
  have hlv := lv_entry ([.ref b]) (n := 7) (Nat.le_of_ble_eq_true rfl)
  rw [lg_entry_eq]
  exact hbody s.heap [] _ ⟨fun t i h => absurd h (Nat.not_lt_zero i), fun t i t' i' h => absurd h (Nat.not_lt_zero i), fun t i h => absurd h (Nat.not_lt_zero i), Or.inr rfl⟩ va_S.rf hlv
end
section
set_option maxHeartbeats 4000000 in
theorem lw_walk (l : Launch) (hl0 : l.stackTraces = false) (b : Addr) (xs : List Int32) : MetFree l x (headSpec (Jvm.Cond.code x code maxLocals ret :: tables_1) room_1) (lw_P b xs) (fun _ _ _ _ _ => True) lw_Q := by
  refine MetFree.of_bodyS (code := code) (maxLocals := maxLocals) (ret := ret) (by decide) ?_ ?_
  · intro args s m h hn
    obtain ⟨meth, c, h1, h2, h3, h4, h5, h6, -, -⟩ := Cond.code_spec hn (atoms_spec (ws := Jvm.Cond.code x code maxLocals ret :: tables_1) h _ List.mem_cons_self)
    exact ⟨meth, c, h1, h2, h3, h4, h5, h6⟩
  · intro p e s m args below meth c s₁ B hml0 hP _
    obtain ⟨rfl, hx, hbd, hgv⟩ := hP
    obtain ⟨scr, harrAt, hlist, hof, hsmall⟩ := hx
    obtain ⟨hcb, hkn, -, -⟩ := State.arrayAt?_spec harrAt
    have hown : s.vm.findClass R_law = some m.cls := findClass_of_methodNamed B.named
    have hts0 : ∀ c ∈ (Jvm.Cond.code x code maxLocals ret :: tables_1), c.before #[Value.ref b] s = true := atoms_spec (ws := Jvm.Cond.code x code maxLocals ret :: tables_1) B.pre
    have hts : ∀ w ∈ lw_tbl, w.before #[Value.ref b] s = true := k2_hts_sels lw_privs (fun w hw => hts0 w (List.mem_cons_of_mem _ hw)) lw_privs_ok
    have hml : c.maxLocals = 7 := B.maxLocals_eq (hts0 _ List.mem_cons_self)
    have X₀ : Stand p l e room_1 s m #[Value.ref b] below meth c s₁ [] 0 0 := Stand.of_body B
    have hh0 : s₁.heap = s.heap := by rw [B.state]; rfl
    have hsz : scr.slots.size = xs.length := by rw [← Array.length_toList, hlist, List.length_map]
    have hval : ∀ j : Nat, j < xs.length → scr.slots[j]? = some (.int (xs.getD j 0)) := fun j hj => by
      rw [← Array.getElem?_toList, hlist]
      simp [hj]
    have hbl : b < s.heap.size := (Array.getElem?_eq_some_iff.mp hcb).1
    have hX : va_X b xs.length (fun j => xs.getD j 0) s s.heap := ⟨scr, hcb, hof, hkn, hsz, hval⟩
    have K : W p l e room_1 s m #[Value.ref b] below meth c s₁.heap [] 0 0 (lw_Z below #[Value.ref b] s) (entryFrame m ([Value.ref b] : List Value).toArray 7) := by
      rw [hh0]
      exact whole_start l hl0 hbd ⟨B.exec, B.bytes, B.returns, hml, hown, hts, hX, hbl, B.notSynchronized, hgv⟩
    obtain ⟨t, a1, o, b1, b2, b3⟩ := K s₁ rfl X₀
    exact ⟨t, o, a1, b1, b2, b3⟩
theorem lw_pre_spec {args : Array Value} {s : State} (h : (Jvm.Cond.and given_1 narrow_1).before args s = true) (hr : rest_1_c.before args s = true) : ∃ (b : Addr) (xs : List Int32), lw_P b xs args s := by
  have hs := flat_of_before _ h
  have hq := flat_of_before _ hr
  have hc : (Cond.count 1).before args s = true := hs _ (by decide +kernel)
  have harr : (Cond.arrayOf (.arg 0) .int).before args s = true := hs _ (by decide +kernel)
  have hle : (Cond.le (.length (.arg 0)) (.int 5)).before args s = true := hs _ (by decide +kernel)
  have hlen : (Cond.isInt (.length (.arg 0))).before args s = true := hq _ (by decide +kernel)
  have hall : (Cond.all (.arg 0) (.isInt (.elem (.arg 0) (.index 0)))).before args s = true := hq _ (by decide +kernel)
  obtain ⟨b, xs, hb, hx⟩ := State.ints_of_pre rfl harr hlen hall
  have hsm : xs.length < 2 ^ 31 := hx.choose_spec.2.2.2
  have hev : (Term.length (.arg 0)).eval args s none [] s = some (.int xs.length.toInt32) := hx.length_eval hb
  have hv := Cond.le_ints hev (show (Term.int 5).eval args s none [] s = some (.int 5) from rfl)
  have hd : xs.length.toInt32 ≤ 5 := by
    simpa [Cond.before, Cond.holds, hv] using hle
  have hN : xs.length ≤ 5 := (Int32.ofNat_le_ofNat hsm (by decide)).mp (show Int32.ofNat xs.length ≤ Int32.ofNat 5 from hd)
  exact ⟨b, xs, Cond.one_arg hc (show args[0]? = some (.ref b) from hb), hx, hN, h⟩
theorem lw_comes (l : Launch) (hl0 : l.stackTraces = false) : Comes l x (Jvm.Cond.code x code maxLocals ret :: tables_1) room_1 (fun tb e args s => Calls_1 tb e args s ∧ rest_1 tb e args s ∧ Pre_1 tb e args s)
    (fun _ _ args s o t => lw_Q args s o t) := by
  intro p e ha hc hk s m args below hf hfit hheap happ hpre
  obtain ⟨b, xs, hP⟩ := lw_pre_spec hpre.2.2 hpre.2.1
  obtain ⟨k, o, h1, h2, h3, hQ⟩ := lw_walk l hl0 b xs p e ha hc hk s m args below hf ((Spec.applies_iff_loose hf).mp happ).1 hP trivial
  exact ⟨k, o, h1, h2, h3, hQ⟩
theorem lw_frame {s t : State} {o : Outcome} {args : Array Value} (h : Framed s o t [] 600002 7302232) :
    Framed s o t (fieldLocs frame_1_writes args s ++ arrayLocs frame_1_arrays args s ++ staticLocs frame_1_statics s) 600002 7302232 := h
theorem lw_limb (L : Cond) (hL : ∀ (args : Array Value) (s t : State), L.after args s (.returned (some (.int 1))) t = true) :
    ArmFor flags0 classFile x code maxLocals ret World_1 tables_1 room_1 Calls_1 rest_1 Pre_1
      (fun tb e a s o t => postC L tb e a s o t ∧ Framed s o t (fieldLocs frame_1_writes a s ++ arrayLocs frame_1_arrays a s ++ staticLocs frame_1_statics s) 600002 7302232) := by
  intro l hf0 _ _ p e ha hc hk s m args below hf hfit hheap happ hpre
  have hl0 : l.stackTraces = false := by
    have h1 := Launch.traces_off hf0 ha
    rw [ha.platform] at h1
    exact h1
  obtain ⟨k, o, h1, h2, h3, rfl, hF⟩ := lw_comes l hl0 p e ha hc hk s m args below hf hfit hheap happ hpre
  exact ⟨k, _, h1, h2, h3, hL args s _, lw_frame hF⟩
theorem i_vc : Claimed_1_1 ∧ Claimed_1_2 := ⟨lw_limb limb_1_1 (fun args s t => by simp [limb_1_1, Cond.after, Cond.holds, Cond.value]), lw_limb limb_1_2 (fun args s t => Cond.after_iff.mpr (by
  first | (rw [show limb_1_2 = Cond.eq .result (.int 1) from rfl, Cond.eq_ints (x := 1) (y := 1) rfl rfl]; simp; done) | (simp [limb_1_2, Cond.value, Term.eval]; done)))⟩
end
