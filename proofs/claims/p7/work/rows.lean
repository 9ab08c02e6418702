section
/-- a private method of a class that the tables say can be made, by its rows of tables_1 -/
def lw_okq (q : MethodName × Nat) : Prop := (q.1.cls ≠ "java/lang/invoke/MethodHandle" ∧ q.1.cls ≠ "java/lang/invoke/VarHandle") ∧ Cond.instantiable q.1.cls q.2 ∈ tables_1 ∧ Cond.privateMethod q.1 ∈ tables_1 ∧ Cond.instanceMethod q.1 ∈ tables_1
theorem lw_p0 : lw_okq (⟨"java/lang/Throwable", "fillInStackTrace", "(I)Ljava/lang/Throwable;"⟩, 6) := ⟨⟨by decide +kernel, by decide +kernel⟩, List.mem_of_getElem? (i := 271) (by decide +kernel), List.mem_of_getElem? (i := 269) (by decide +kernel), List.mem_of_getElem? (i := 270) (by decide +kernel)⟩
theorem lw_p1 : lw_okq (⟨"ThreadHall", "nextReady", "()I"⟩, 12) := ⟨⟨by decide +kernel, by decide +kernel⟩, List.mem_of_getElem? (i := 15) (by decide +kernel), List.mem_of_getElem? (i := 377) (by decide +kernel), List.mem_of_getElem? (i := 378) (by decide +kernel)⟩
theorem lw_p2 : lw_okq (⟨"ThreadHall", "takeTurn", "(LThreadHall$Strand;)V"⟩, 12) := ⟨⟨by decide +kernel, by decide +kernel⟩, List.mem_of_getElem? (i := 15) (by decide +kernel), List.mem_of_getElem? (i := 381) (by decide +kernel), List.mem_of_getElem? (i := 382) (by decide +kernel)⟩
theorem lw_p3 : lw_okq (⟨"ThreadHall", "raise", "(LThreadHall$Strand;I)V"⟩, 12) := ⟨⟨by decide +kernel, by decide +kernel⟩, List.mem_of_getElem? (i := 15) (by decide +kernel), List.mem_of_getElem? (i := 385) (by decide +kernel), List.mem_of_getElem? (i := 386) (by decide +kernel)⟩
theorem lw_p4 : lw_okq (⟨"ThreadHall", "finish", "(LThreadHall$Strand;I)V"⟩, 12) := ⟨⟨by decide +kernel, by decide +kernel⟩, List.mem_of_getElem? (i := 15) (by decide +kernel), List.mem_of_getElem? (i := 390) (by decide +kernel), List.mem_of_getElem? (i := 391) (by decide +kernel)⟩
theorem lw_p5 : lw_okq (⟨"ThreadHall", "runHooks", "(LThreadHall$Strand;)V"⟩, 12) := ⟨⟨by decide +kernel, by decide +kernel⟩, List.mem_of_getElem? (i := 15) (by decide +kernel), List.mem_of_getElem? (i := 394) (by decide +kernel), List.mem_of_getElem? (i := 395) (by decide +kernel)⟩
theorem lw_p6 : lw_okq (⟨"ThreadHall", "read", "(LThreadHall$Strand;I)I"⟩, 12) := ⟨⟨by decide +kernel, by decide +kernel⟩, List.mem_of_getElem? (i := 15) (by decide +kernel), List.mem_of_getElem? (i := 398) (by decide +kernel), List.mem_of_getElem? (i := 399) (by decide +kernel)⟩
theorem lw_p7 : lw_okq (⟨"ThreadHall", "write", "(LThreadHall$Strand;II)V"⟩, 12) := ⟨⟨by decide +kernel, by decide +kernel⟩, List.mem_of_getElem? (i := 15) (by decide +kernel), List.mem_of_getElem? (i := 406) (by decide +kernel), List.mem_of_getElem? (i := 407) (by decide +kernel)⟩
theorem lw_p8 : lw_okq (⟨"ThreadHall", "passOn", "(LThreadHall$Mutex;)V"⟩, 12) := ⟨⟨by decide +kernel, by decide +kernel⟩, List.mem_of_getElem? (i := 15) (by decide +kernel), List.mem_of_getElem? (i := 411) (by decide +kernel), List.mem_of_getElem? (i := 412) (by decide +kernel)⟩
theorem lw_p9 : lw_okq (⟨"ThreadHall", "wakeJoiners", "(LThreadHall$Strand;)V"⟩, 12) := ⟨⟨by decide +kernel, by decide +kernel⟩, List.mem_of_getElem? (i := 15) (by decide +kernel), List.mem_of_getElem? (i := 427) (by decide +kernel), List.mem_of_getElem? (i := 428) (by decide +kernel)⟩
theorem lw_p10 : lw_okq (⟨"ThreadHall", "countInstruction", "(LThreadHall$Strand;)V"⟩, 12) := ⟨⟨by decide +kernel, by decide +kernel⟩, List.mem_of_getElem? (i := 15) (by decide +kernel), List.mem_of_getElem? (i := 431) (by decide +kernel), List.mem_of_getElem? (i := 432) (by decide +kernel)⟩
theorem lw_p11 : lw_okq (⟨"ThreadHall", "perform", "(LThreadHall$Strand;III)I"⟩, 12) := ⟨⟨by decide +kernel, by decide +kernel⟩, List.mem_of_getElem? (i := 15) (by decide +kernel), List.mem_of_getElem? (i := 435) (by decide +kernel), List.mem_of_getElem? (i := 436) (by decide +kernel)⟩
theorem lw_p12 : lw_okq (⟨"ThreadHall", "goFor", "(LThreadHall$Strand;II)V"⟩, 12) := ⟨⟨by decide +kernel, by decide +kernel⟩, List.mem_of_getElem? (i := 15) (by decide +kernel), List.mem_of_getElem? (i := 458) (by decide +kernel), List.mem_of_getElem? (i := 459) (by decide +kernel)⟩
theorem lw_p13 : lw_okq (⟨"ThreadHall", "unlock", "(LThreadHall$Strand;I)I"⟩, 12) := ⟨⟨by decide +kernel, by decide +kernel⟩, List.mem_of_getElem? (i := 15) (by decide +kernel), List.mem_of_getElem? (i := 470) (by decide +kernel), List.mem_of_getElem? (i := 471) (by decide +kernel)⟩
theorem lw_p14 : lw_okq (⟨"ThreadHall", "tryLock", "(LThreadHall$Strand;II)V"⟩, 12) := ⟨⟨by decide +kernel, by decide +kernel⟩, List.mem_of_getElem? (i := 15) (by decide +kernel), List.mem_of_getElem? (i := 474) (by decide +kernel), List.mem_of_getElem? (i := 475) (by decide +kernel)⟩
theorem lw_p15 : lw_okq (⟨"ThreadHall", "beginWait", "(LThreadHall$Strand;II)I"⟩, 12) := ⟨⟨by decide +kernel, by decide +kernel⟩, List.mem_of_getElem? (i := 15) (by decide +kernel), List.mem_of_getElem? (i := 478) (by decide +kernel), List.mem_of_getElem? (i := 479) (by decide +kernel)⟩
def lw_privs_1 : List (MethodName × Nat) := [(⟨"java/lang/Throwable", "fillInStackTrace", "(I)Ljava/lang/Throwable;"⟩, 6), (⟨"ThreadHall", "nextReady", "()I"⟩, 12), (⟨"ThreadHall", "takeTurn", "(LThreadHall$Strand;)V"⟩, 12), (⟨"ThreadHall", "raise", "(LThreadHall$Strand;I)V"⟩, 12), (⟨"ThreadHall", "finish", "(LThreadHall$Strand;I)V"⟩, 12), (⟨"ThreadHall", "runHooks", "(LThreadHall$Strand;)V"⟩, 12), (⟨"ThreadHall", "read", "(LThreadHall$Strand;I)I"⟩, 12), (⟨"ThreadHall", "write", "(LThreadHall$Strand;II)V"⟩, 12), (⟨"ThreadHall", "passOn", "(LThreadHall$Mutex;)V"⟩, 12), (⟨"ThreadHall", "wakeJoiners", "(LThreadHall$Strand;)V"⟩, 12), (⟨"ThreadHall", "countInstruction", "(LThreadHall$Strand;)V"⟩, 12), (⟨"ThreadHall", "perform", "(LThreadHall$Strand;III)I"⟩, 12), (⟨"ThreadHall", "goFor", "(LThreadHall$Strand;II)V"⟩, 12), (⟨"ThreadHall", "unlock", "(LThreadHall$Strand;I)I"⟩, 12), (⟨"ThreadHall", "tryLock", "(LThreadHall$Strand;II)V"⟩, 12), (⟨"ThreadHall", "beginWait", "(LThreadHall$Strand;II)I"⟩, 12)]
theorem lw_r1 : ∀ q ∈ lw_privs_1, lw_okq q := List.forall_mem_cons.mpr ⟨lw_p0, List.forall_mem_cons.mpr ⟨lw_p1, List.forall_mem_cons.mpr ⟨lw_p2, List.forall_mem_cons.mpr ⟨lw_p3, List.forall_mem_cons.mpr ⟨lw_p4, List.forall_mem_cons.mpr ⟨lw_p5, List.forall_mem_cons.mpr ⟨lw_p6, List.forall_mem_cons.mpr ⟨lw_p7, List.forall_mem_cons.mpr ⟨lw_p8, List.forall_mem_cons.mpr ⟨lw_p9, List.forall_mem_cons.mpr ⟨lw_p10, List.forall_mem_cons.mpr ⟨lw_p11, List.forall_mem_cons.mpr ⟨lw_p12, List.forall_mem_cons.mpr ⟨lw_p13, List.forall_mem_cons.mpr ⟨lw_p14, List.forall_mem_cons.mpr ⟨lw_p15, fun _ h => absurd h List.not_mem_nil⟩⟩⟩⟩⟩⟩⟩⟩⟩⟩⟩⟩⟩⟩⟩⟩
theorem lw_p16 : lw_okq (⟨"ThreadHall", "tellFirst", "(LThreadHall$Row;)V"⟩, 12) := ⟨⟨by decide +kernel, by decide +kernel⟩, List.mem_of_getElem? (i := 15) (by decide +kernel), List.mem_of_getElem? (i := 482) (by decide +kernel), List.mem_of_getElem? (i := 483) (by decide +kernel)⟩
theorem lw_p17 : lw_okq (⟨"ThreadHall", "tellAll", "(LThreadHall$Row;)V"⟩, 12) := ⟨⟨by decide +kernel, by decide +kernel⟩, List.mem_of_getElem? (i := 15) (by decide +kernel), List.mem_of_getElem? (i := 486) (by decide +kernel), List.mem_of_getElem? (i := 487) (by decide +kernel)⟩
theorem lw_p18 : lw_okq (⟨"ThreadHall", "beginJoin", "(LThreadHall$Strand;II)I"⟩, 12) := ⟨⟨by decide +kernel, by decide +kernel⟩, List.mem_of_getElem? (i := 15) (by decide +kernel), List.mem_of_getElem? (i := 493) (by decide +kernel), List.mem_of_getElem? (i := 494) (by decide +kernel)⟩
theorem lw_p19 : lw_okq (⟨"ThreadHall", "interruptAlive", "(LThreadHall$Strand;)V"⟩, 12) := ⟨⟨by decide +kernel, by decide +kernel⟩, List.mem_of_getElem? (i := 15) (by decide +kernel), List.mem_of_getElem? (i := 497) (by decide +kernel), List.mem_of_getElem? (i := 498) (by decide +kernel)⟩
theorem lw_p20 : lw_okq (⟨"ThreadHall", "jumpIfZero", "(LThreadHall$Strand;II)V"⟩, 12) := ⟨⟨by decide +kernel, by decide +kernel⟩, List.mem_of_getElem? (i := 15) (by decide +kernel), List.mem_of_getElem? (i := 505) (by decide +kernel), List.mem_of_getElem? (i := 506) (by decide +kernel)⟩
theorem lw_p21 : lw_okq (⟨"ThreadHall", "keepSaid", "(I)V"⟩, 12) := ⟨⟨by decide +kernel, by decide +kernel⟩, List.mem_of_getElem? (i := 15) (by decide +kernel), List.mem_of_getElem? (i := 509) (by decide +kernel), List.mem_of_getElem? (i := 510) (by decide +kernel)⟩
theorem lw_p22 : lw_okq (⟨"ThreadHall", "aliveCount", "()I"⟩, 12) := ⟨⟨by decide +kernel, by decide +kernel⟩, List.mem_of_getElem? (i := 15) (by decide +kernel), List.mem_of_getElem? (i := 569) (by decide +kernel), List.mem_of_getElem? (i := 570) (by decide +kernel)⟩
theorem lw_p23 : lw_okq (⟨"ThreadHall", "readyCount", "()I"⟩, 12) := ⟨⟨by decide +kernel, by decide +kernel⟩, List.mem_of_getElem? (i := 15) (by decide +kernel), List.mem_of_getElem? (i := 573) (by decide +kernel), List.mem_of_getElem? (i := 574) (by decide +kernel)⟩
theorem lw_p24 : lw_okq (⟨"ThreadHallModel", "refuse", "(I)I"⟩, 36) := ⟨⟨by decide +kernel, by decide +kernel⟩, List.mem_of_getElem? (i := 577) (by decide +kernel), List.mem_of_getElem? (i := 707) (by decide +kernel), List.mem_of_getElem? (i := 708) (by decide +kernel)⟩
theorem lw_p25 : lw_okq (⟨"ThreadHallModel", "alive", "(I)Z"⟩, 36) := ⟨⟨by decide +kernel, by decide +kernel⟩, List.mem_of_getElem? (i := 577) (by decide +kernel), List.mem_of_getElem? (i := 711) (by decide +kernel), List.mem_of_getElem? (i := 712) (by decide +kernel)⟩
theorem lw_p26 : lw_okq (⟨"ThreadHallModel", "ready", "()I"⟩, 36) := ⟨⟨by decide +kernel, by decide +kernel⟩, List.mem_of_getElem? (i := 577) (by decide +kernel), List.mem_of_getElem? (i := 723) (by decide +kernel), List.mem_of_getElem? (i := 724) (by decide +kernel)⟩
theorem lw_p27 : lw_okq (⟨"ThreadHallModel", "turn", "(I)V"⟩, 36) := ⟨⟨by decide +kernel, by decide +kernel⟩, List.mem_of_getElem? (i := 577) (by decide +kernel), List.mem_of_getElem? (i := 727) (by decide +kernel), List.mem_of_getElem? (i := 728) (by decide +kernel)⟩
theorem lw_p28 : lw_okq (⟨"ThreadHallModel", "error", "(II)V"⟩, 36) := ⟨⟨by decide +kernel, by decide +kernel⟩, List.mem_of_getElem? (i := 577) (by decide +kernel), List.mem_of_getElem? (i := 731) (by decide +kernel), List.mem_of_getElem? (i := 732) (by decide +kernel)⟩
theorem lw_p29 : lw_okq (⟨"ThreadHallModel", "end", "(II)V"⟩, 36) := ⟨⟨by decide +kernel, by decide +kernel⟩, List.mem_of_getElem? (i := 577) (by decide +kernel), List.mem_of_getElem? (i := 735) (by decide +kernel), List.mem_of_getElem? (i := 736) (by decide +kernel)⟩
theorem lw_p30 : lw_okq (⟨"ThreadHallModel", "get", "(II)I"⟩, 36) := ⟨⟨by decide +kernel, by decide +kernel⟩, List.mem_of_getElem? (i := 577) (by decide +kernel), List.mem_of_getElem? (i := 739) (by decide +kernel), List.mem_of_getElem? (i := 740) (by decide +kernel)⟩
theorem lw_p31 : lw_okq (⟨"ThreadHallModel", "bound", "(II)I"⟩, 36) := ⟨⟨by decide +kernel, by decide +kernel⟩, List.mem_of_getElem? (i := 577) (by decide +kernel), List.mem_of_getElem? (i := 743) (by decide +kernel), List.mem_of_getElem? (i := 744) (by decide +kernel)⟩
def lw_privs_2 : List (MethodName × Nat) := [(⟨"ThreadHall", "tellFirst", "(LThreadHall$Row;)V"⟩, 12), (⟨"ThreadHall", "tellAll", "(LThreadHall$Row;)V"⟩, 12), (⟨"ThreadHall", "beginJoin", "(LThreadHall$Strand;II)I"⟩, 12), (⟨"ThreadHall", "interruptAlive", "(LThreadHall$Strand;)V"⟩, 12), (⟨"ThreadHall", "jumpIfZero", "(LThreadHall$Strand;II)V"⟩, 12), (⟨"ThreadHall", "keepSaid", "(I)V"⟩, 12), (⟨"ThreadHall", "aliveCount", "()I"⟩, 12), (⟨"ThreadHall", "readyCount", "()I"⟩, 12), (⟨"ThreadHallModel", "refuse", "(I)I"⟩, 36), (⟨"ThreadHallModel", "alive", "(I)Z"⟩, 36), (⟨"ThreadHallModel", "ready", "()I"⟩, 36), (⟨"ThreadHallModel", "turn", "(I)V"⟩, 36), (⟨"ThreadHallModel", "error", "(II)V"⟩, 36), (⟨"ThreadHallModel", "end", "(II)V"⟩, 36), (⟨"ThreadHallModel", "get", "(II)I"⟩, 36), (⟨"ThreadHallModel", "bound", "(II)I"⟩, 36)]
theorem lw_r2 : ∀ q ∈ lw_privs_2, lw_okq q := List.forall_mem_cons.mpr ⟨lw_p16, List.forall_mem_cons.mpr ⟨lw_p17, List.forall_mem_cons.mpr ⟨lw_p18, List.forall_mem_cons.mpr ⟨lw_p19, List.forall_mem_cons.mpr ⟨lw_p20, List.forall_mem_cons.mpr ⟨lw_p21, List.forall_mem_cons.mpr ⟨lw_p22, List.forall_mem_cons.mpr ⟨lw_p23, List.forall_mem_cons.mpr ⟨lw_p24, List.forall_mem_cons.mpr ⟨lw_p25, List.forall_mem_cons.mpr ⟨lw_p26, List.forall_mem_cons.mpr ⟨lw_p27, List.forall_mem_cons.mpr ⟨lw_p28, List.forall_mem_cons.mpr ⟨lw_p29, List.forall_mem_cons.mpr ⟨lw_p30, List.forall_mem_cons.mpr ⟨lw_p31, fun _ h => absurd h List.not_mem_nil⟩⟩⟩⟩⟩⟩⟩⟩⟩⟩⟩⟩⟩⟩⟩⟩
theorem lw_p32 : lw_okq (⟨"ThreadHallModel", "put", "(III)V"⟩, 36) := ⟨⟨by decide +kernel, by decide +kernel⟩, List.mem_of_getElem? (i := 577) (by decide +kernel), List.mem_of_getElem? (i := 747) (by decide +kernel), List.mem_of_getElem? (i := 748) (by decide +kernel)⟩
theorem lw_p33 : lw_okq (⟨"ThreadHallModel", "pass", "(I)V"⟩, 36) := ⟨⟨by decide +kernel, by decide +kernel⟩, List.mem_of_getElem? (i := 577) (by decide +kernel), List.mem_of_getElem? (i := 751) (by decide +kernel), List.mem_of_getElem? (i := 752) (by decide +kernel)⟩
theorem lw_p34 : lw_okq (⟨"ThreadHallModel", "act", "(IIII)V"⟩, 36) := ⟨⟨by decide +kernel, by decide +kernel⟩, List.mem_of_getElem? (i := 577) (by decide +kernel), List.mem_of_getElem? (i := 755) (by decide +kernel), List.mem_of_getElem? (i := 756) (by decide +kernel)⟩
theorem lw_p35 : lw_okq (⟨"ThreadHallModel", "bind", "(III)V"⟩, 36) := ⟨⟨by decide +kernel, by decide +kernel⟩, List.mem_of_getElem? (i := 577) (by decide +kernel), List.mem_of_getElem? (i := 759) (by decide +kernel), List.mem_of_getElem? (i := 760) (by decide +kernel)⟩
theorem lw_p36 : lw_okq (⟨"ThreadHallModel", "unbind", "(II)V"⟩, 36) := ⟨⟨by decide +kernel, by decide +kernel⟩, List.mem_of_getElem? (i := 577) (by decide +kernel), List.mem_of_getElem? (i := 763) (by decide +kernel), List.mem_of_getElem? (i := 764) (by decide +kernel)⟩
theorem lw_p37 : lw_okq (⟨"ThreadHallModel", "locks", "(IIII)V"⟩, 36) := ⟨⟨by decide +kernel, by decide +kernel⟩, List.mem_of_getElem? (i := 577) (by decide +kernel), List.mem_of_getElem? (i := 767) (by decide +kernel), List.mem_of_getElem? (i := 768) (by decide +kernel)⟩
theorem lw_p38 : lw_okq (⟨"ThreadHallModel", "goFor", "(III)V"⟩, 36) := ⟨⟨by decide +kernel, by decide +kernel⟩, List.mem_of_getElem? (i := 577) (by decide +kernel), List.mem_of_getElem? (i := 771) (by decide +kernel), List.mem_of_getElem? (i := 772) (by decide +kernel)⟩
theorem lw_p39 : lw_okq (⟨"ThreadHallModel", "await", "(III)V"⟩, 36) := ⟨⟨by decide +kernel, by decide +kernel⟩, List.mem_of_getElem? (i := 577) (by decide +kernel), List.mem_of_getElem? (i := 775) (by decide +kernel), List.mem_of_getElem? (i := 776) (by decide +kernel)⟩
theorem lw_p40 : lw_okq (⟨"ThreadHallModel", "isStopped", "(I)Z"⟩, 36) := ⟨⟨by decide +kernel, by decide +kernel⟩, List.mem_of_getElem? (i := 577) (by decide +kernel), List.mem_of_getElem? (i := 779) (by decide +kernel), List.mem_of_getElem? (i := 780) (by decide +kernel)⟩
theorem lw_p41 : lw_okq (⟨"ThreadHallModel", "leaveWait", "(I)V"⟩, 36) := ⟨⟨by decide +kernel, by decide +kernel⟩, List.mem_of_getElem? (i := 577) (by decide +kernel), List.mem_of_getElem? (i := 783) (by decide +kernel), List.mem_of_getElem? (i := 784) (by decide +kernel)⟩
theorem lw_p42 : lw_okq (⟨"ThreadHallModel", "begin", "(I)Z"⟩, 36) := ⟨⟨by decide +kernel, by decide +kernel⟩, List.mem_of_getElem? (i := 577) (by decide +kernel), List.mem_of_getElem? (i := 787) (by decide +kernel), List.mem_of_getElem? (i := 788) (by decide +kernel)⟩
theorem lw_p43 : lw_okq (⟨"ThreadHallModel", "join", "(III)V"⟩, 36) := ⟨⟨by decide +kernel, by decide +kernel⟩, List.mem_of_getElem? (i := 577) (by decide +kernel), List.mem_of_getElem? (i := 791) (by decide +kernel), List.mem_of_getElem? (i := 792) (by decide +kernel)⟩
theorem lw_p44 : lw_okq (⟨"ThreadHallModel", "interrupted", "(I)Z"⟩, 36) := ⟨⟨by decide +kernel, by decide +kernel⟩, List.mem_of_getElem? (i := 577) (by decide +kernel), List.mem_of_getElem? (i := 795) (by decide +kernel), List.mem_of_getElem? (i := 796) (by decide +kernel)⟩
theorem lw_p45 : lw_okq (⟨"ThreadHallModel", "leaveJoin", "(I)V"⟩, 36) := ⟨⟨by decide +kernel, by decide +kernel⟩, List.mem_of_getElem? (i := 577) (by decide +kernel), List.mem_of_getElem? (i := 799) (by decide +kernel), List.mem_of_getElem? (i := 800) (by decide +kernel)⟩
def lw_privs_3 : List (MethodName × Nat) := [(⟨"ThreadHallModel", "put", "(III)V"⟩, 36), (⟨"ThreadHallModel", "pass", "(I)V"⟩, 36), (⟨"ThreadHallModel", "act", "(IIII)V"⟩, 36), (⟨"ThreadHallModel", "bind", "(III)V"⟩, 36), (⟨"ThreadHallModel", "unbind", "(II)V"⟩, 36), (⟨"ThreadHallModel", "locks", "(IIII)V"⟩, 36), (⟨"ThreadHallModel", "goFor", "(III)V"⟩, 36), (⟨"ThreadHallModel", "await", "(III)V"⟩, 36), (⟨"ThreadHallModel", "isStopped", "(I)Z"⟩, 36), (⟨"ThreadHallModel", "leaveWait", "(I)V"⟩, 36), (⟨"ThreadHallModel", "begin", "(I)Z"⟩, 36), (⟨"ThreadHallModel", "join", "(III)V"⟩, 36), (⟨"ThreadHallModel", "interrupted", "(I)Z"⟩, 36), (⟨"ThreadHallModel", "leaveJoin", "(I)V"⟩, 36)]
theorem lw_r3 : ∀ q ∈ lw_privs_3, lw_okq q := List.forall_mem_cons.mpr ⟨lw_p32, List.forall_mem_cons.mpr ⟨lw_p33, List.forall_mem_cons.mpr ⟨lw_p34, List.forall_mem_cons.mpr ⟨lw_p35, List.forall_mem_cons.mpr ⟨lw_p36, List.forall_mem_cons.mpr ⟨lw_p37, List.forall_mem_cons.mpr ⟨lw_p38, List.forall_mem_cons.mpr ⟨lw_p39, List.forall_mem_cons.mpr ⟨lw_p40, List.forall_mem_cons.mpr ⟨lw_p41, List.forall_mem_cons.mpr ⟨lw_p42, List.forall_mem_cons.mpr ⟨lw_p43, List.forall_mem_cons.mpr ⟨lw_p44, List.forall_mem_cons.mpr ⟨lw_p45, fun _ h => absurd h List.not_mem_nil⟩⟩⟩⟩⟩⟩⟩⟩⟩⟩⟩⟩⟩⟩
def lw_privs : List (MethodName × Nat) := lw_privs_1 ++ (lw_privs_2 ++ (lw_privs_3))
def lw_tbl : List Cond := k2_sels lw_privs ++ tables_1
theorem lw_privs_ok : ∀ q ∈ lw_privs, lw_okq q := by
  show ∀ q ∈ lw_privs_1 ++ (lw_privs_2 ++ (lw_privs_3)), lw_okq q
  exact List.forall_mem_append.mpr ⟨lw_r1, List.forall_mem_append.mpr ⟨lw_r2, lw_r3⟩⟩
end
section
/-! ===== BEGIN words of one list among another's, by their places ===== -/
theorem goodIn_r {big : List Cond} (ws : List Cond) (ps : List Nat) (hp : ws = ps.filterMap (fun i => big[i]?)) (h : ws.all goodWord = true) : GoodIn big ws := by
  intro w hw
  have h1 := List.all_eq_true.mp h w hw
  rw [hp] at hw
  obtain ⟨i, -, hi⟩ := List.mem_filterMap.mp hw
  have hm : w ∈ big := by first | exact List.mem_of_getElem? hi | exact List.getElem?_mem hi
  exact ⟨hm, good_of_word h1⟩
theorem goodIn_app {big a b : List Cond} (ha : GoodIn big a) (hb : GoodIn big b) : GoodIn big (a ++ b) := fun w h => (List.mem_append.mp h).elim (ha w) (hb w)
theorem goodIn_ca {big a b : List Cond} {c : Cond} (ha : GoodIn big (c :: a)) (hb : GoodIn big b) : GoodIn big (c :: (a ++ b)) := fun w h => (List.mem_cons.mp h).elim (fun e => ha w (List.mem_cons.mpr (Or.inl e))) (fun h => (List.mem_append.mp h).elim (fun h => ha w (List.mem_cons.mpr (Or.inr h))) (hb w))
theorem goodIn_sub {big ws : List Cond} (hm : ∀ w ∈ ws, w ∈ big) (h : ws.all goodWord = true) : GoodIn big ws := fun w hw => ⟨hm w hw, good_of_word (List.all_eq_true.mp h w hw)⟩
/-! ===== END ===== -/

/-! ===== BEGIN exceptions that leave a method, and their catching by the caller (launches without stack traces) ===== -/
section VXA
/-! The laws vx_back, vx_callV, vx_callS, vx_callSW, vx_throw0, vx_throwS follow proofs of the library, with one case more: JvmDerived/Free/Laws.lean (Back.of_free), Shelf42/LK1.lean (callV, callS), Shelf/KitTraced.lean (throwNew0V, throwNewS). -/
/-- where a method has thrown q: the class by its name, the cell, what was written, the world -/
def vx_T (XC : String → State → State → Prop) (st : State) (q : Addr) (t : State) (mc ms : Nat) (free : Addr → Prop) : Prop :=
  ∃ (E : String) (ce : Cell) (L : List Loc), XC E st t ∧ t.heap[q]? = some ce ∧ ce.vm = .none ∧ st.vm.findClass E = some ce.cls ∧ st.WarmedH t.vm ∧ st.sameButNew ({ t with vm := st.vm } : State) L mc ms ∧ ∀ z ∈ L, free z.base
def vx_Q (Qc : Array Value → State → Outcome → State → Prop) (XC : String → State → State → Prop) (mc ms : Nat) (free : Addr → Prop) : Array Value → State → Outcome → State → Prop := fun a st o t =>
  (Qc a st o t ∧ ∃ L, FrameEnd st o t L mc ms ∧ ∀ q ∈ L, free q.base) ∨ ∃ q, o = .threw q ∧ vx_T XC st q t mc ms free
/-- a callee that returns or throws -/
def vx_Met (l : Launch) (y : MethodName) (ws : List Cond) (rm : Room) (Pc : Array Value → State → Prop) (Qc : Array Value → State → Outcome → State → Prop) (XC : String → State → State → Prop) (mc ms : Nat) (free : Addr → Prop) : Prop :=
  MetFree l y (headSpec ws rm) Pc (fun _ _ _ _ _ => True) (vx_Q Qc XC mc ms free)
def vx_Post (XC : String → State → State → Prop) (mc ms : Nat) (free : Addr → Prop) : Pt → Array Value → Addr → Pt → Prop := fun A a q B =>
  ∃ (g : JFrame) (mk : MethodId) (t : State) (L : List Loc) (E : String) (ce : Cell), B.U.heap = t.heap ∧ B.U.vm = t.vm ∧ XC E (A.U.calling g mk a) t ∧ t.heap[q]? = some ce ∧ ce.vm = .none ∧ A.U.vm.findClass E = some ce.cls ∧ B.locs = A.locs ++ L ∧ (∀ z ∈ L, free z.base) ∧ B.cells = A.cells + mc ∧ B.slots = A.slots + ms
def vx_Back (l : Launch) (R : Room) (p : Program) (e : Env) (below : List Frame) (s : State) (sargs : Array Value) (y : MethodName) (len W9 : Nat)
    (Pre : Pt → Array Value → Prop) (Post : Pt → Array Value → Option Value → Pt → Prop) (PostX : Pt → Array Value → Addr → Pt → Prop) : Prop :=
  ∀ (m : MethodId) (meth : Method) (c : Code) (A : Pt) (g : JFrame) (ig : Instr) (mk : MethodId) (a : Array Value),
    Stand p l e R s m sargs below meth c A.U A.locs A.cells A.slots → g.method = m → g.locals.size = c.maxLocals → decode c.code g.pc = .ok (ig, len) →
    2 * g.monitorRoom + (g.stack.map fun v => v.category).sum ≤ W9 → A.U.methodNamed? y = some mk → Pre A a →
    (∃ (v : Option Value) (B : Pt), Stand p l e R s m sargs below meth c B.U B.locs B.cells B.slots ∧ Post A a v B ∧
      Steps p.tables e below (doInvoke e (A.U.setTop g) [] mk a).1 (B.U.setTop { g with pc := g.pc + len, stack := v.toList ++ g.stack })) ∨
    (∃ (q : Addr) (B : Pt), Stand p l e R s m sargs below meth c B.U B.locs B.cells B.slots ∧ PostX A a q B ∧
      Steps p.tables e below (doInvoke e (A.U.setTop g) [] mk a).1 ((B.U.setTop g).pushFrame (.throwing q)))
section Payer
variable {l : Launch} {R : Room} {p : Program} {e : Env} {below : List Frame} {s : State} {sargs : Array Value} {y : MethodName} {len W9 : Nat}
theorem vx_back {ws : List Cond} {rm : Room} {Pc : Array Value → State → Prop} {Qc : Array Value → State → Outcome → State → Prop} {XC : String → State → State → Prop} {mc ms : Nat} {free : Addr → Prop} {bytes : ByteArray} {maxL : Nat} {ret : Option FieldType}
    (hM : vx_Met l y ws rm Pc Qc XC mc ms free) (hblind : FrameBlind Pc) (hrc : rm.cells = mc) (hrs : rm.slots = ms)
    (hframes : rm.frames + 1 ≤ R.frames) (hlocals : W9 + (maxL + 11) + rm.locals ≤ R.locals)
    (hws : ∀ w ∈ ws, ∀ a' U, s.WarmedH U.vm → w.before a' U = true) (hcode : Cond.code y bytes maxL ret ∈ ws) (hinit : ∀ a' U, s.WarmedH U.vm → (Cond.initialized y.cls).before a' U = true) :
    vx_Back l R p e below s sargs y len W9 (PreOf R mc ms Pc) (PostOf Qc mc ms free) (vx_Post XC mc ms free) := by
  intro m meth c A g ig mk a X hg hsize hdg hW hn hp
  have h1 : (headSpec ws rm).pre.before a A.U = true := atoms_intro fun w hw => hws w hw _ _ X.warmed
  have h2 : (Cond.code y bytes maxL ret).before a A.U = true := hws _ hcode _ _ X.warmed
  have h3 : (Cond.initialized y.cls).before a A.U = true := hinit _ _ X.warmed
  have h4 : A.cells + (headSpec ws rm).room.cells ≤ R.cells := by rw [show (headSpec ws rm).room.cells = mc from hrc]; exact hp.1
  have h5 : A.slots + (headSpec ws rm).room.slots ≤ R.slots := by rw [show (headSpec ws rm).room.slots = ms from hrs]; exact hp.2.1
  have hPc : Pc a (A.U.calling g mk a) := hblind _ _ _ _ hp.2.2
  obtain ⟨U, Ls, c0, s0⟩ := A
  dsimp only [Pt.U, Pt.locs, Pt.cells, Pt.slots] at h1 h2 h3 h4 h5 X hn hPc ⊢
  obtain ⟨methY, cY, hmY, hcY, -, hlY, -, -, -, -⟩ := Cond.code_spec hn h2
  obtain ⟨kY, hkY, -⟩ := className_of_methodNamed hn
  have hinitY : kY.init = .initialized := Cond.initialized_spec (findClass_of_methodNamed hn) hkY h3
  have h : At U g.method c below := by rw [hg]; exact X.here
  have hlocals9 : W9 + (maxL + 11) + (headSpec ws rm).room.locals ≤ R.locals := hlocals
  have happ : (headSpec ws rm).appliesLoose y e.platform (U.calling g mk a) = true :=
    Spec.appliesLoose_calling (g := g) h hdg hn hkY hinitY
      (X.room_calling (g := g) (R' := (headSpec ws rm).room) hsize hmY hcY hframes (by rw [hlY]; omega) h4 h5) h1
  obtain ⟨mid, hmid⟩ := h.above
  have hfr : (U.setTop g).frames = (.java g :: mid) ++ below := by rw [State.frames_setTop' g h.top, hmid]; rfl
  obtain ⟨o, s₂, hsteps, -, hend, hq⟩ := Steps.callFree hM p X.admits X.cas X.clock (acts := []) hfr happ hPc trivial
  have hq' : vx_Q Qc XC mc ms free a (U.calling g mk a) o s₂ := hq
  rw [State.frames_setTop' g h.top] at hend
  obtain ⟨g₀, hg0⟩ := Option.isSome_iff_exists.mp h.top
  obtain ⟨r, hr⟩ := State.topJava?_eq_some.mp hg0
  have hr' : (({ U with heap := s₂.heap, slotsUsed := s₂.slotsUsed } : State).setVm s₂.vm).frames = .java g₀ :: r := hr
  rcases hq' with ⟨hqc, L, hfe, hL⟩ | ⟨q, rfl, E, ce, L, hx, hce, hcv, hcl, hW₂, hsm, hL⟩
  · obtain ⟨⟨v, rfl⟩, hW₂, e2, q2, q3, q4, q5, q6⟩ := id hfe
    have e3 : s₂ = ({ (U.calling g mk a).setFrames s₂.frames with heap := s₂.heap, slotsUsed := s₂.slotsUsed } : State).setVm s₂.vm := by
      have : s₂ = ({ s₂ with vm := (U.calling g mk a).vm } : State).setVm s₂.vm := rfl
      rw [e2] at this
      exact this
    obtain ⟨c₂, i₂, len₂, hc₂, hd₂, hf₂⟩ := hend
    have hW' : U.WarmedH s₂.vm := hW₂
    have hcc : c₂ = c := by
      have h1 : s₂.code? g.method = U.code? g.method := by
        rw [State.code?_eq, State.code?_eq, hW'.alike.method?]
      exact Option.some.inj (hc₂.symm.trans (h1.trans h.code))
    subst hcc
    have hlen : len₂ = len := by rw [hdg] at hd₂; cases hd₂; rfl
    subst hlen
    have hs₂ : s₂ = (({ U with heap := s₂.heap, slotsUsed := s₂.slotsUsed } : State).setVm s₂.vm).setTop { g with pc := g.pc + len₂, stack := v.toList ++ g.stack } := by
      refine e3.trans ?_
      rw [hf₂, State.calling_eq h.top, State.setFrames_setFrames, State.setTop_of_frames _ hr', hr]
      rfl
    have hsame : U.sameButNew ({ U with heap := s₂.heap, slotsUsed := s₂.slotsUsed } : State) L mc ms := by
      refine ⟨?_, q2, q3, q4, q5, q6⟩
      obtain ⟨t, ht, -⟩ := State.frames_cons hr
      show ({ U with heap := s₂.heap, slotsUsed := s₂.slotsUsed } : State) = { U.setFrames U.frames with heap := s₂.heap, slotsUsed := s₂.slotsUsed }
      rw [State.setFrames_self ht]
    subst hg
    refine Or.inl ⟨v, ⟨(({ U with heap := s₂.heap, slotsUsed := s₂.slotsUsed } : State).setVm s₂.vm), Ls ++ L, c0 + mc, s0 + ms⟩,
      ⟨X.admits, X.cas, X.clock, X.frames, X.room, X.hears, X.method, X.code, (X.here.setHeapUsed s₂.heap s₂.slotsUsed).setVm hW'.alike, X.tail, State.WarmedH.trans X.warmed hW', X.limits, X.bytes, X.same.trans (hsame.setVm s.vm)⟩,
      ⟨g, mk, s₂, L, rfl, rfl, hqc, rfl, hL, rfl, rfl⟩, ?_⟩
    show Steps p.tables e below _ ((({ U with heap := s₂.heap, slotsUsed := s₂.slotsUsed } : State).setVm s₂.vm).setTop { g with pc := g.pc + len₂, stack := v.toList ++ g.stack })
    rw [← hs₂]
    exact hsteps
  · obtain ⟨e2, q2, q3, q4, q5, q6⟩ := id hsm
    have e3 : s₂ = ({ (U.calling g mk a).setFrames s₂.frames with heap := s₂.heap, slotsUsed := s₂.slotsUsed } : State).setVm s₂.vm := by
      have : s₂ = ({ s₂ with vm := (U.calling g mk a).vm } : State).setVm s₂.vm := rfl
      rw [e2] at this
      exact this
    have hf₂ : s₂.frames = .throwing q :: .java g :: U.frames.tail := hend
    have hW' : U.WarmedH s₂.vm := hW₂
    have hs₂ : s₂ = ((({ U with heap := s₂.heap, slotsUsed := s₂.slotsUsed } : State).setVm s₂.vm).setTop g).pushFrame (.throwing q) := by
      refine e3.trans ?_
      rw [hf₂, State.calling_eq h.top, State.setFrames_setFrames, State.pushFrame, State.frames_setTop _ hr', State.setTop_of_frames _ hr', State.setFrames_setFrames, hr]
      rfl
    have hsame : U.sameButNew ({ U with heap := s₂.heap, slotsUsed := s₂.slotsUsed } : State) L mc ms := by
      refine ⟨?_, q2, q3, q4, q5, q6⟩
      obtain ⟨t, ht, -⟩ := State.frames_cons hr
      show ({ U with heap := s₂.heap, slotsUsed := s₂.slotsUsed } : State) = { U.setFrames U.frames with heap := s₂.heap, slotsUsed := s₂.slotsUsed }
      rw [State.setFrames_self ht]
    subst hg
    refine Or.inr ⟨q, ⟨(({ U with heap := s₂.heap, slotsUsed := s₂.slotsUsed } : State).setVm s₂.vm), Ls ++ L, c0 + mc, s0 + ms⟩,
      ⟨X.admits, X.cas, X.clock, X.frames, X.room, X.hears, X.method, X.code, (X.here.setHeapUsed s₂.heap s₂.slotsUsed).setVm hW'.alike, X.tail, State.WarmedH.trans X.warmed hW', X.limits, X.bytes, X.same.trans (hsame.setVm s.vm)⟩,
      ⟨g, mk, s₂, L, E, ce, rfl, rfl, hx, hce, hcv, hcl, rfl, hL, rfl, rfl⟩, ?_⟩
    show Steps p.tables e below _ (((({ U with heap := s₂.heap, slotsUsed := s₂.slotsUsed } : State).setVm s₂.vm).setTop g).pushFrame (.throwing q))
    rw [← hs₂]
    exact hsteps
end Payer
section Calls
variable {p : Program} {l : Launch} {e : Env} {R : Room} {s : State} {m : MethodId} {args : Array Value} {below : List Frame} {meth : Method} {c : Code} {T : State} {locs : List Loc} {cells slots : Nat}
theorem vx_callV (X : Stand p l e R s m args below meth c T locs cells slots) (hexec : p.tables.exec = Jvm.exec) {own C : String} {index : Nat} {y : MethodName} {bytes : ByteArray} {maxL : Nat} {ret : Option FieldType}
    (hown : s.vm.findClass own = some m.cls) (hlink : (Cond.methodLink own index y).before args s = true) (hinst : (Cond.instanceMethod y).before args s = true) (hsel : (Cond.selects C y y).before args s = true)
    (hcode : (Cond.code y bytes maxL ret).before args s = true) (hy : y.cls ≠ "java/lang/invoke/MethodHandle" ∧ y.cls ≠ "java/lang/invoke/VarHandle")
    {W9 : Nat} {Pre : Pt → Array Value → Prop} {Post : Pt → Array Value → Option Value → Pt → Prop} {PostX : Pt → Array Value → Addr → Pt → Prop} (hK : vx_Back l R p e below s args y 3 W9 Pre Post PostX)
    {b : Addr} {cellB : Cell} (hcell : T.heap[b]? = some cellB) (hobj : cellB.vm.isStatics = false) (hcls : s.vm.findClass C = some cellB.cls)
    {g : JFrame} (hg : g.method = m) (hsize : g.locals.size = c.maxLocals) {argsL rest : List Value} (hlen : ∀ sig, parseMethodDescriptor y.desc = some sig → argsL.length = sig.parameters.length)
    (hstack : g.stack = argsL.reverse ++ .ref b :: rest) (hW : 2 * g.monitorRoom + (rest.map fun v => v.category).sum ≤ W9) (hdg : decode c.code g.pc = .ok (.invokevirtual index, 3))
    (hpre : ∀ vm₁, s.WarmedH vm₁ → Pre ⟨T.setVm vm₁, locs, cells, slots⟩ (Value.ref b :: argsL).toArray) :
    (∃ (v : Option Value) (vm₁ : Vm) (B : Pt), s.WarmedH vm₁ ∧ Stand p l e R s m args below meth c B.U B.locs B.cells B.slots ∧ Post ⟨T.setVm vm₁, locs, cells, slots⟩ (Value.ref b :: argsL).toArray v B ∧
      ∀ target, Steps p.tables e below (B.U.setTop { g with pc := g.pc + 3, stack := v.toList ++ rest }) target → Steps p.tables e below (T.setTop g) target) ∨
    (∃ (q : Addr) (vm₁ : Vm) (B : Pt), s.WarmedH vm₁ ∧ Stand p l e R s m args below meth c B.U B.locs B.cells B.slots ∧ PostX ⟨T.setVm vm₁, locs, cells, slots⟩ (Value.ref b :: argsL).toArray q B ∧
      Steps p.tables e below (T.setTop g) ((B.U.setTop { g with stack := rest }).pushFrame (.throwing q))) := by
  obtain ⟨mk, methM, hnamed, hmethM, hstM, habM⟩ := Cond.instanceMethod_spec hinst
  obtain ⟨methM', cM, hmethM', -, -, -, -, -, -, hsigM⟩ := Cond.code_spec hnamed hcode
  cases hmethM.symm.trans hmethM'
  obtain ⟨c2, r2, m2, q1, q2, q3, q4, kP, hkP, hkPi⟩ := Cond.selects_spec hsel
  cases hcls.symm.trans q1
  cases (State.methodFound?_of_named hnamed hy).symm.trans q2
  cases hnamed.symm.trans q3
  have hselP : selectMethod e.platform s.vm cellB.cls mk = .method mk := by rw [Launch.admits_selectMethod X.admits]; exact q4
  obtain ⟨vm₁, X₁, hstep₁⟩ := X.invokevirtual hexec hown hlink hnamed hmethM hstM hkP hkPi hy (a := b) (cell := cellB) hcell
    (fun z h => by rw [h] at hobj; cases hobj) hselP hmethM habM hkP hkPi (g := g) hg (argsL := argsL) (rest := rest) (hlen _ hsigM) hstack hdg
  rcases hK m meth c ⟨T.setVm vm₁, locs, cells, slots⟩ { g with stack := rest } (.invokevirtual index) mk (Value.ref b :: argsL).toArray X₁ hg hsize hdg hW (X₁.named hnamed) (hpre vm₁ X₁.warmed) with ⟨v, B, X', hpost, hsteps⟩ | ⟨q, B, X', hpost, hsteps⟩
  · exact Or.inl ⟨v, vm₁, B, X₁.warmed, X', hpost, fun target h => hstep₁ _ fun acts => by rw [doInvoke_state]; exact hsteps.trans h⟩
  · exact Or.inr ⟨q, vm₁, B, X₁.warmed, X', hpost, hstep₁ _ fun acts => by rw [doInvoke_state]; exact hsteps⟩
theorem vx_callS (X : Stand p l e R s m args below meth c T locs cells slots) (hexec : p.tables.exec = Jvm.exec) {own : String} {index : Nat} {y : MethodName} {bytes : ByteArray} {maxL : Nat} {ret : Option FieldType}
    (hown : s.vm.findClass own = some m.cls) (hlink : (Cond.methodLink own index y).before args s = true) (hstat : (Cond.static y).before args s = true) (hinit : (Cond.initialized y.cls).before args s = true)
    (hcode : (Cond.code y bytes maxL ret).before args s = true) (hy : y.cls ≠ "java/lang/invoke/MethodHandle" ∧ y.cls ≠ "java/lang/invoke/VarHandle")
    {W9 : Nat} {Pre : Pt → Array Value → Prop} {Post : Pt → Array Value → Option Value → Pt → Prop} {PostX : Pt → Array Value → Addr → Pt → Prop} (hK : vx_Back l R p e below s args y 3 W9 Pre Post PostX)
    {g : JFrame} (hg : g.method = m) (hsize : g.locals.size = c.maxLocals) {argsL rest : List Value} (hlen : ∀ sig, parseMethodDescriptor y.desc = some sig → argsL.length = sig.parameters.length)
    (hstack : g.stack = argsL.reverse ++ rest) (hW : 2 * g.monitorRoom + (rest.map fun v => v.category).sum ≤ W9) (hdg : decode c.code g.pc = .ok (.invokestatic index, 3))
    (hpre : ∀ vm₁, s.WarmedH vm₁ → Pre ⟨T.setVm vm₁, locs, cells, slots⟩ argsL.toArray) :
    (∃ (v : Option Value) (vm₁ : Vm) (B : Pt), s.WarmedH vm₁ ∧ Stand p l e R s m args below meth c B.U B.locs B.cells B.slots ∧ Post ⟨T.setVm vm₁, locs, cells, slots⟩ argsL.toArray v B ∧
      ∀ target, Steps p.tables e below (B.U.setTop { g with pc := g.pc + 3, stack := v.toList ++ rest }) target → Steps p.tables e below (T.setTop g) target) ∨
    (∃ (q : Addr) (vm₁ : Vm) (B : Pt), s.WarmedH vm₁ ∧ Stand p l e R s m args below meth c B.U B.locs B.cells B.slots ∧ PostX ⟨T.setVm vm₁, locs, cells, slots⟩ argsL.toArray q B ∧
      Steps p.tables e below (T.setTop g) ((B.U.setTop { g with stack := rest }).pushFrame (.throwing q))) := by
  obtain ⟨mk, hnamed⟩ := Cond.code_named hcode
  obtain ⟨methM, cM, hmethM, -, -, -, -, -, -, hsigM⟩ := Cond.code_spec hnamed hcode
  have hstatic : methM.isStatic = true := Cond.static_spec hnamed hmethM hstat
  obtain ⟨kP, hkP, -⟩ := className_of_methodNamed hnamed
  have hinitP : kP.init = .initialized := Cond.initialized_spec (findClass_of_methodNamed hnamed) hkP hinit
  obtain ⟨vm₁, X₁, hstep₁⟩ := X.invokestatic hexec hown hlink hnamed hmethM hstatic hkP hinitP hy (g := g) hg (argsL := argsL) (rest := rest) (hlen _ hsigM) hstack hdg
  rcases hK m meth c ⟨T.setVm vm₁, locs, cells, slots⟩ { g with stack := rest } (.invokestatic index) mk argsL.toArray X₁ hg hsize hdg hW (X₁.named hnamed) (hpre vm₁ X₁.warmed) with ⟨v, B, X', hpost, hsteps⟩ | ⟨q, B, X', hpost, hsteps⟩
  · exact Or.inl ⟨v, vm₁, B, X₁.warmed, X', hpost, fun target h => hstep₁ _ fun acts => by rw [doInvoke_state]; exact hsteps.trans h⟩
  · exact Or.inr ⟨q, vm₁, B, X₁.warmed, X', hpost, hstep₁ _ fun acts => by rw [doInvoke_state]; exact hsteps⟩
end Calls
theorem vx_cls {s : State} {T : State} {vm₁ : Vm} {E : String} {k : ClassId} (hW : s.WarmedH vm₁) (h : (T.setVm vm₁).vm.findClass E = some k) : s.vm.findClass E = some k := by
  have h1 : vm₁.findClass E = some k := h
  rw [hW.alike.findClass] at h1
  exact h1
/-- the method's frame g, with q thrown over it -/
def vx_W (p : Program) (l : Launch) (e : Env) (R : Room) (s : State) (m : MethodId) (args : Array Value) (below : List Frame) (meth : Method) (c : Code) (H : Heap) (locs : List Loc) (cells slots : Nat) (Q : State → Prop) (g : JFrame) (q : Addr) : Prop :=
  ∀ T : State, T.heap = H → Stand p l e R s m args below meth c T locs cells slots → ∃ t, Steps p.tables e below ((T.setTop g).pushFrame (.throwing q)) t ∧ Q t
def vx_Run (p : Program) (l : Launch) (e : Env) (R : Room) (s : State) (m : MethodId) (args : Array Value) (below : List Frame) (meth : Method) (c : Code) (H : Heap) (locs : List Loc) (cells slots mc ms : Nat) (g : JFrame) (rest : List Value) (Qa : State → Outcome → State → Prop) (XC : String → State → State → Prop) (free : Addr → Prop) : Prop :=
  ∀ T : State, T.heap = H → Stand p l e R s m args below meth c T locs cells slots →
    (∃ (v : Option Value) (st₀ t T' : State) (L : List Loc), st₀.heap = H ∧ Stand p l e R s m args below meth c T' (locs ++ L) (cells + mc) (slots + ms) ∧ (∀ q ∈ L, free q.base) ∧ T'.heap = t.heap ∧ T'.vm = t.vm ∧ Qa st₀ (.returned v) t ∧
      Goes p e below T g T' { g with pc := g.pc + 3, stack := v.toList ++ rest }) ∨
    (∃ (q : Addr) (st₀ t T' : State) (L : List Loc) (E : String) (ce : Cell), st₀.heap = H ∧ Stand p l e R s m args below meth c T' (locs ++ L) (cells + mc) (slots + ms) ∧ (∀ z ∈ L, free z.base) ∧ T'.heap = t.heap ∧ T'.vm = t.vm ∧ XC E st₀ t ∧ t.heap[q]? = some ce ∧ ce.vm = .none ∧ s.vm.findClass E = some ce.cls ∧
      Steps p.tables e below (T.setTop g) ((T'.setTop { g with stack := rest }).pushFrame (.throwing q)))
def vx_X {S : Type} (px : S → Prop) (B : String → S → State → Prop) (A : Nat → Prop) : String → State → State → Prop := fun E st t => ∃ u : S, px u ∧ B E u t ∧ va_F A st t
section Runs
variable {p : Program} {l : Launch} {e : Env} {R : Room} {s : State} {m : MethodId} {args : Array Value} {below : List Frame} {meth : Method} {c : Code} {H : Heap} {locs : List Loc} {cells slots : Nat}
variable {y : MethodName} {bytes cc : ByteArray} {maxL nL mc ms n index : Nat} {ret : Option FieldType} {ws : List Cond} {rm : Room} {Pc : Array Value → State → Prop} {Qc : Array Value → State → Outcome → State → Prop} {XC : String → State → State → Prop} {free : Addr → Prop} {Ts : List Cond} {own C : String} {b : Addr} {As rest : List Value} {g : JFrame}
theorem vx_callBack (cb : CallB R s args own index y bytes maxL ret ws rm mc ms n) (hM : vx_Met l y ws rm Pc Qc XC mc ms free) (hbl : FrameBlind Pc) : vx_Back l R p e below s args y 3 8 (PreOf R mc ms Pc) (PostOf Qc mc ms free) (vx_Post XC mc ms free) := by
  obtain ⟨hrc, hrs, hfr, hlo, hws, hcw, -, hini, -⟩ := cb
  exact vx_back (bytes := bytes) (maxL := maxL) (ret := ret) hM hbl hrc hrs hfr hlo hws hcw (fun a' U hW => word_at hW (Or.inl (by first | rfl | simp [Cond.onTables, Cond.keeps, Cond.steady])) hini)
theorem vx_runV (S : CallFix p m c cc nL s args Ts own) (hM : vx_Met l y ws rm Pc Qc XC mc ms free) (cw : CallW R s args own C index y bytes maxL ret ws rm mc ms n) (hp : PreV s H C b Pc As)
    (hg : g.method = m) (hn : As.length = n) (hsize : g.locals.size = nL) (hstack : g.stack = As.reverse ++ .ref b :: rest) (hW : 2 * g.monitorRoom + (rest.map fun v => v.category).sum ≤ 8) (hdg : decode cc g.pc = .ok (.invokevirtual index, 3)) (hf : cells + mc ≤ R.cells ∧ slots + ms ≤ R.slots) :
    vx_Run p l e R s m args below meth c H locs cells slots mc ms g rest (Qc (Value.ref b :: As).toArray) XC free := by
  have hK : vx_Back l R p e below s args y 3 8 (PreOf R mc ms Pc) (PostOf Qc mc ms free) (vx_Post XC mc ms free) := vx_callBack cw.1 hM hp.1
  obtain ⟨⟨-, -, -, -, -, -, hcode, -, hy, hlen, hl⟩, hin, hse⟩ := cw
  obtain ⟨hx, hb, hml, ho, -⟩ := S
  obtain ⟨-, ⟨cellB, hcB, hoB, hclB⟩, hPc⟩ := hp
  intro T hT X
  rcases vx_callV X hx (C := C) (bytes := bytes) (maxL := maxL) (ret := ret) ho hl hin hse hcode hy hK (by rw [hT]; exact hcB) hoB hclB hg (hsize.trans hml.symm) (argsL := As) (rest := rest) (fun sig h => hn.trans (hlen sig h)) hstack hW (by rw [hb]; exact hdg)
    (fun vm₁ hW₁ => ⟨hf.1, hf.2, hPc (T.setVm vm₁) hT hW₁⟩) with ⟨v, vm₁, ⟨U', l2, c2, s2⟩, hW₁, X', ⟨g', mk, t, L, e1, e2, hq, h1, hL, h2, h3⟩, st⟩ | ⟨q, vm₁, ⟨U', l2, c2, s2⟩, hW₁, X', ⟨g', mk, t, L, E, ce, e1, e2, hq, hce, hcv, hcl, h1, hL, h2, h3⟩, st⟩
  · dsimp only [Pt.U, Pt.locs, Pt.cells, Pt.slots] at X' e1 e2 h1 h2 h3 st
    subst h1; subst h2; subst h3
    exact Or.inl ⟨v, (T.setVm vm₁).calling g' mk (Value.ref b :: As).toArray, t, U', L, hT, X', hL, e1, e2, hq, st⟩
  · dsimp only [Pt.U, Pt.locs, Pt.cells, Pt.slots] at X' e1 e2 h1 h2 h3 st hcl
    subst h1; subst h2; subst h3
    exact Or.inr ⟨q, (T.setVm vm₁).calling g' mk (Value.ref b :: As).toArray, t, U', L, E, ce, hT, X', hL, e1, e2, hq, hce, hcv, vx_cls hW₁ hcl, st⟩
theorem vx_runS (S : CallFix p m c cc nL s args Ts own) (hM : vx_Met l y ws rm Pc Qc XC mc ms free) (cw : CallB R s args own index y bytes maxL ret ws rm mc ms n ∧ (Cond.static y).before args s = true) (hp : PreS s H Pc As)
    (hg : g.method = m) (hn : As.length = n) (hsize : g.locals.size = nL) (hstack : g.stack = As.reverse ++ rest) (hW : 2 * g.monitorRoom + (rest.map fun v => v.category).sum ≤ 8) (hdg : decode cc g.pc = .ok (.invokestatic index, 3)) (hf : cells + mc ≤ R.cells ∧ slots + ms ≤ R.slots) :
    vx_Run p l e R s m args below meth c H locs cells slots mc ms g rest (Qc As.toArray) XC free := by
  have hK : vx_Back l R p e below s args y 3 8 (PreOf R mc ms Pc) (PostOf Qc mc ms free) (vx_Post XC mc ms free) := vx_callBack cw.1 hM hp.1
  obtain ⟨⟨-, -, -, -, -, -, hcode, hini, hy, hlen, hl⟩, hstt⟩ := cw
  obtain ⟨hx, hb, hml, ho, -⟩ := S
  intro T hT X
  rcases vx_callS X hx (bytes := bytes) (maxL := maxL) (ret := ret) ho hl hstt hini hcode hy hK hg (hsize.trans hml.symm) (argsL := As) (rest := rest) (fun sig h => hn.trans (hlen sig h)) hstack hW (by rw [hb]; exact hdg)
    (fun vm₁ hW₁ => ⟨hf.1, hf.2, hp.2 (T.setVm vm₁) hT hW₁⟩) with ⟨v, vm₁, ⟨U', l2, c2, s2⟩, hW₁, X', ⟨g', mk, t, L, e1, e2, hq, h1, hL, h2, h3⟩, st⟩ | ⟨q, vm₁, ⟨U', l2, c2, s2⟩, hW₁, X', ⟨g', mk, t, L, E, ce, e1, e2, hq, hce, hcv, hcl, h1, hL, h2, h3⟩, st⟩
  · dsimp only [Pt.U, Pt.locs, Pt.cells, Pt.slots] at X' e1 e2 h1 h2 h3 st
    subst h1; subst h2; subst h3
    exact Or.inl ⟨v, (T.setVm vm₁).calling g' mk As.toArray, t, U', L, hT, X', hL, e1, e2, hq, st⟩
  · dsimp only [Pt.U, Pt.locs, Pt.cells, Pt.slots] at X' e1 e2 h1 h2 h3 st hcl
    subst h1; subst h2; subst h3
    exact Or.inr ⟨q, (T.setVm vm₁).calling g' mk As.toArray, t, U', L, E, ce, hT, X', hL, e1, e2, hq, hce, hcv, vx_cls hW₁ hcl, st⟩
end Runs
section Rows
variable {p : Program} {l : Launch} {e : Env} {R : Room} {s : State} {m : MethodId} {args : Array Value} {below : List Frame} {meth : Method} {c : Code} {H : Heap} {locs : List Loc} {cells slots : Nat} {Q : State → Prop}
variable {mc ms : Nat} {free : Addr → Prop} {A0 A1 : Nat → Prop} {H0 : Heap} {a : Array Value} {pc : Nat} {ls : Array Slot} {st0 rest : List Value}
theorem vx_keep {st₀ t T' : State} {L : List Loc} (h0 : st₀.heap = H) (e1 : T'.heap = t.heap) (hS : va_S A0 H0 H locs) (hA : ∀ q, q < H.size → A1 q → A0 q) (hf : ∀ q, free q → A0 q) (hL : ∀ q ∈ L, free q.base) (hF : va_F A1 st₀ t) :
    H.size ≤ T'.heap.size ∧ (∀ q : Nat, q < H.size → ¬ A1 q → T'.heap[q]? = H[q]?) ∧ va_S A0 H0 T'.heap (locs ++ L) := by
  obtain ⟨hz, hk⟩ := hF
  rw [h0] at hz hk
  exact ⟨by rw [e1]; exact hz, fun q h1 h2 => by rw [e1]; exact hk q h1 h2,
    ⟨Nat.le_trans hS.1 (by rw [e1]; exact hz), fun q h1 h2 => by rw [e1, hk q (Nat.lt_of_lt_of_le h1 hS.1) (fun z => h2 (hA q (Nat.lt_of_lt_of_le h1 hS.1) z))]; exact hS.2.1 q h1 h2, fun q hq => by
      rcases List.mem_append.mp hq with h | h
      · exact hS.2.2 q h
      · exact hf _ (hL q h)⟩⟩
theorem vx_calli {S SX : Type} {post : Int32 → S → Prop} {px : SX → Prop} {B : S → State → Prop} {BX : String → SX → State → Prop} {AX : Nat → Prop} (hr : vx_Run p l e R s m args below meth c H locs cells slots mc ms (F0 m pc ls st0) rest (va_Qi post B A1 a) (vx_X px BX AX) free) (hS : va_S A0 H0 H locs) (hA : ∀ q, q < H.size → A1 q → A0 q) (hf : ∀ q, free q → A0 q) (hAX : ∀ q, q < H.size → AX q → A0 q)
    (kx : ∀ (E : String) (ce : Cell) (q9 : Addr) (u : SX) (t : State) (H1 : Heap) (locs1 : List Loc), t.heap = H1 → s.vm.Alike t.vm → px u → BX E u t → H.size ≤ H1.size → (∀ q : Nat, q < H.size → ¬ AX q → H1[q]? = H[q]?) → va_S A0 H0 H1 locs1 → H1[q9]? = some ce → ce.vm = .none → s.vm.findClass E = some ce.cls → vx_W p l e R s m args below meth c H1 locs1 (cells + mc) (slots + ms) Q (F0 m pc ls rest) q9)
    (kk : ∀ (r : Int32) (u : S) (t : State) (H1 : Heap) (locs1 : List Loc), t.heap = H1 → s.vm.Alike t.vm → post r u → B u t → H.size ≤ H1.size → (∀ q : Nat, q < H.size → ¬ A1 q → H1[q]? = H[q]?) → va_S A0 H0 H1 locs1 → W p l e R s m args below meth c H1 locs1 (cells + mc) (slots + ms) Q (F0 m (pc + 3) ls (.int r :: rest))) : W p l e R s m args below meth c H locs cells slots Q (F0 m pc ls st0) := by
  intro T hT X
  rcases hr T hT X with ⟨v, st₀, t, T', L, h0, X', hL, e1, e2, ⟨⟨r, u, hv, hp, hb⟩, hF⟩, st⟩ | ⟨q, st₀, t, T', L, E, ce, h0, X', hL, e1, e2, ⟨u, hp, hb, hF⟩, hce, hcv, hcl, st⟩
  · cases hv
    obtain ⟨k1, k2, k3⟩ := vx_keep h0 e1 hS hA hf hL hF
    obtain ⟨t2, a1, b1⟩ := kk r u t T'.heap (locs ++ L) e1.symm (by rw [← e2]; exact X'.warmed.alike) hp hb k1 k2 k3 T' rfl X'
    exact ⟨t2, st t2 a1, b1⟩
  · obtain ⟨k1, k2, k3⟩ := vx_keep h0 e1 hS hAX hf hL hF
    obtain ⟨t2, a1, b1⟩ := kx E ce q u t T'.heap (locs ++ L) e1.symm (by rw [← e2]; exact X'.warmed.alike) hp hb k1 k2 k3 (by rw [e1]; exact hce) hcv hcl T' rfl X'
    exact ⟨t2, st.trans a1, b1⟩
theorem vx_calll {S SX : Type} {post : Int64 → S → Prop} {px : SX → Prop} {B : S → State → Prop} {BX : String → SX → State → Prop} {AX : Nat → Prop} (hr : vx_Run p l e R s m args below meth c H locs cells slots mc ms (F0 m pc ls st0) rest (va_Ql post B A1 a) (vx_X px BX AX) free) (hS : va_S A0 H0 H locs) (hA : ∀ q, q < H.size → A1 q → A0 q) (hf : ∀ q, free q → A0 q) (hAX : ∀ q, q < H.size → AX q → A0 q)
    (kx : ∀ (E : String) (ce : Cell) (q9 : Addr) (u : SX) (t : State) (H1 : Heap) (locs1 : List Loc), t.heap = H1 → s.vm.Alike t.vm → px u → BX E u t → H.size ≤ H1.size → (∀ q : Nat, q < H.size → ¬ AX q → H1[q]? = H[q]?) → va_S A0 H0 H1 locs1 → H1[q9]? = some ce → ce.vm = .none → s.vm.findClass E = some ce.cls → vx_W p l e R s m args below meth c H1 locs1 (cells + mc) (slots + ms) Q (F0 m pc ls rest) q9)
    (kk : ∀ (r : Int64) (u : S) (t : State) (H1 : Heap) (locs1 : List Loc), t.heap = H1 → s.vm.Alike t.vm → post r u → B u t → H.size ≤ H1.size → (∀ q : Nat, q < H.size → ¬ A1 q → H1[q]? = H[q]?) → va_S A0 H0 H1 locs1 → W p l e R s m args below meth c H1 locs1 (cells + mc) (slots + ms) Q (F0 m (pc + 3) ls (.long r :: rest))) : W p l e R s m args below meth c H locs cells slots Q (F0 m pc ls st0) := by
  intro T hT X
  rcases hr T hT X with ⟨v, st₀, t, T', L, h0, X', hL, e1, e2, ⟨⟨r, u, hv, hp, hb⟩, hF⟩, st⟩ | ⟨q, st₀, t, T', L, E, ce, h0, X', hL, e1, e2, ⟨u, hp, hb, hF⟩, hce, hcv, hcl, st⟩
  · cases hv
    obtain ⟨k1, k2, k3⟩ := vx_keep h0 e1 hS hA hf hL hF
    obtain ⟨t2, a1, b1⟩ := kk r u t T'.heap (locs ++ L) e1.symm (by rw [← e2]; exact X'.warmed.alike) hp hb k1 k2 k3 T' rfl X'
    exact ⟨t2, st t2 a1, b1⟩
  · obtain ⟨k1, k2, k3⟩ := vx_keep h0 e1 hS hAX hf hL hF
    obtain ⟨t2, a1, b1⟩ := kx E ce q u t T'.heap (locs ++ L) e1.symm (by rw [← e2]; exact X'.warmed.alike) hp hb k1 k2 k3 (by rw [e1]; exact hce) hcv hcl T' rfl X'
    exact ⟨t2, st.trans a1, b1⟩
theorem vx_callf {S SX : Type} {post : UInt32 → S → Prop} {px : SX → Prop} {B : S → State → Prop} {BX : String → SX → State → Prop} {AX : Nat → Prop} (hr : vx_Run p l e R s m args below meth c H locs cells slots mc ms (F0 m pc ls st0) rest (va_Qf post B A1 a) (vx_X px BX AX) free) (hS : va_S A0 H0 H locs) (hA : ∀ q, q < H.size → A1 q → A0 q) (hf : ∀ q, free q → A0 q) (hAX : ∀ q, q < H.size → AX q → A0 q)
    (kx : ∀ (E : String) (ce : Cell) (q9 : Addr) (u : SX) (t : State) (H1 : Heap) (locs1 : List Loc), t.heap = H1 → s.vm.Alike t.vm → px u → BX E u t → H.size ≤ H1.size → (∀ q : Nat, q < H.size → ¬ AX q → H1[q]? = H[q]?) → va_S A0 H0 H1 locs1 → H1[q9]? = some ce → ce.vm = .none → s.vm.findClass E = some ce.cls → vx_W p l e R s m args below meth c H1 locs1 (cells + mc) (slots + ms) Q (F0 m pc ls rest) q9)
    (kk : ∀ (r : UInt32) (u : S) (t : State) (H1 : Heap) (locs1 : List Loc), t.heap = H1 → s.vm.Alike t.vm → post r u → B u t → H.size ≤ H1.size → (∀ q : Nat, q < H.size → ¬ A1 q → H1[q]? = H[q]?) → va_S A0 H0 H1 locs1 → W p l e R s m args below meth c H1 locs1 (cells + mc) (slots + ms) Q (F0 m (pc + 3) ls (.float r :: rest))) : W p l e R s m args below meth c H locs cells slots Q (F0 m pc ls st0) := by
  intro T hT X
  rcases hr T hT X with ⟨v, st₀, t, T', L, h0, X', hL, e1, e2, ⟨⟨r, u, hv, hp, hb⟩, hF⟩, st⟩ | ⟨q, st₀, t, T', L, E, ce, h0, X', hL, e1, e2, ⟨u, hp, hb, hF⟩, hce, hcv, hcl, st⟩
  · cases hv
    obtain ⟨k1, k2, k3⟩ := vx_keep h0 e1 hS hA hf hL hF
    obtain ⟨t2, a1, b1⟩ := kk r u t T'.heap (locs ++ L) e1.symm (by rw [← e2]; exact X'.warmed.alike) hp hb k1 k2 k3 T' rfl X'
    exact ⟨t2, st t2 a1, b1⟩
  · obtain ⟨k1, k2, k3⟩ := vx_keep h0 e1 hS hAX hf hL hF
    obtain ⟨t2, a1, b1⟩ := kx E ce q u t T'.heap (locs ++ L) e1.symm (by rw [← e2]; exact X'.warmed.alike) hp hb k1 k2 k3 (by rw [e1]; exact hce) hcv hcl T' rfl X'
    exact ⟨t2, st.trans a1, b1⟩
theorem vx_calld {S SX : Type} {post : UInt64 → S → Prop} {px : SX → Prop} {B : S → State → Prop} {BX : String → SX → State → Prop} {AX : Nat → Prop} (hr : vx_Run p l e R s m args below meth c H locs cells slots mc ms (F0 m pc ls st0) rest (va_Qd post B A1 a) (vx_X px BX AX) free) (hS : va_S A0 H0 H locs) (hA : ∀ q, q < H.size → A1 q → A0 q) (hf : ∀ q, free q → A0 q) (hAX : ∀ q, q < H.size → AX q → A0 q)
    (kx : ∀ (E : String) (ce : Cell) (q9 : Addr) (u : SX) (t : State) (H1 : Heap) (locs1 : List Loc), t.heap = H1 → s.vm.Alike t.vm → px u → BX E u t → H.size ≤ H1.size → (∀ q : Nat, q < H.size → ¬ AX q → H1[q]? = H[q]?) → va_S A0 H0 H1 locs1 → H1[q9]? = some ce → ce.vm = .none → s.vm.findClass E = some ce.cls → vx_W p l e R s m args below meth c H1 locs1 (cells + mc) (slots + ms) Q (F0 m pc ls rest) q9)
    (kk : ∀ (r : UInt64) (u : S) (t : State) (H1 : Heap) (locs1 : List Loc), t.heap = H1 → s.vm.Alike t.vm → post r u → B u t → H.size ≤ H1.size → (∀ q : Nat, q < H.size → ¬ A1 q → H1[q]? = H[q]?) → va_S A0 H0 H1 locs1 → W p l e R s m args below meth c H1 locs1 (cells + mc) (slots + ms) Q (F0 m (pc + 3) ls (.double r :: rest))) : W p l e R s m args below meth c H locs cells slots Q (F0 m pc ls st0) := by
  intro T hT X
  rcases hr T hT X with ⟨v, st₀, t, T', L, h0, X', hL, e1, e2, ⟨⟨r, u, hv, hp, hb⟩, hF⟩, st⟩ | ⟨q, st₀, t, T', L, E, ce, h0, X', hL, e1, e2, ⟨u, hp, hb, hF⟩, hce, hcv, hcl, st⟩
  · cases hv
    obtain ⟨k1, k2, k3⟩ := vx_keep h0 e1 hS hA hf hL hF
    obtain ⟨t2, a1, b1⟩ := kk r u t T'.heap (locs ++ L) e1.symm (by rw [← e2]; exact X'.warmed.alike) hp hb k1 k2 k3 T' rfl X'
    exact ⟨t2, st t2 a1, b1⟩
  · obtain ⟨k1, k2, k3⟩ := vx_keep h0 e1 hS hAX hf hL hF
    obtain ⟨t2, a1, b1⟩ := kx E ce q u t T'.heap (locs ++ L) e1.symm (by rw [← e2]; exact X'.warmed.alike) hp hb k1 k2 k3 (by rw [e1]; exact hce) hcv hcl T' rfl X'
    exact ⟨t2, st.trans a1, b1⟩
theorem vx_callv {S SX : Type} {post : S → Prop} {px : SX → Prop} {B : S → State → Prop} {BX : String → SX → State → Prop} {AX : Nat → Prop} (hr : vx_Run p l e R s m args below meth c H locs cells slots mc ms (F0 m pc ls st0) rest (va_Qv post B A1 a) (vx_X px BX AX) free) (hS : va_S A0 H0 H locs) (hA : ∀ q, q < H.size → A1 q → A0 q) (hf : ∀ q, free q → A0 q) (hAX : ∀ q, q < H.size → AX q → A0 q)
    (kx : ∀ (E : String) (ce : Cell) (q9 : Addr) (u : SX) (t : State) (H1 : Heap) (locs1 : List Loc), t.heap = H1 → s.vm.Alike t.vm → px u → BX E u t → H.size ≤ H1.size → (∀ q : Nat, q < H.size → ¬ AX q → H1[q]? = H[q]?) → va_S A0 H0 H1 locs1 → H1[q9]? = some ce → ce.vm = .none → s.vm.findClass E = some ce.cls → vx_W p l e R s m args below meth c H1 locs1 (cells + mc) (slots + ms) Q (F0 m pc ls rest) q9)
    (kk : ∀ (u : S) (t : State) (H1 : Heap) (locs1 : List Loc), t.heap = H1 → s.vm.Alike t.vm → post u → B u t → H.size ≤ H1.size → (∀ q : Nat, q < H.size → ¬ A1 q → H1[q]? = H[q]?) → va_S A0 H0 H1 locs1 → W p l e R s m args below meth c H1 locs1 (cells + mc) (slots + ms) Q (F0 m (pc + 3) ls (rest))) : W p l e R s m args below meth c H locs cells slots Q (F0 m pc ls st0) := by
  intro T hT X
  rcases hr T hT X with ⟨v, st₀, t, T', L, h0, X', hL, e1, e2, ⟨⟨u, hv, hp, hb⟩, hF⟩, st⟩ | ⟨q, st₀, t, T', L, E, ce, h0, X', hL, e1, e2, ⟨u, hp, hb, hF⟩, hce, hcv, hcl, st⟩
  · cases hv
    obtain ⟨k1, k2, k3⟩ := vx_keep h0 e1 hS hA hf hL hF
    obtain ⟨t2, a1, b1⟩ := kk u t T'.heap (locs ++ L) e1.symm (by rw [← e2]; exact X'.warmed.alike) hp hb k1 k2 k3 T' rfl X'
    exact ⟨t2, st t2 a1, b1⟩
  · obtain ⟨k1, k2, k3⟩ := vx_keep h0 e1 hS hAX hf hL hF
    obtain ⟨t2, a1, b1⟩ := kx E ce q u t T'.heap (locs ++ L) e1.symm (by rw [← e2]; exact X'.warmed.alike) hp hb k1 k2 k3 (by rw [e1]; exact hce) hcv hcl T' rfl X'
    exact ⟨t2, st.trans a1, b1⟩
/-- caught by the row x of this method's table; the rows ahead don't take it -/
theorem vx_catch {own name : String} {E : String} {ce : Cell} {q : Addr} (hown : s.vm.findClass own = some m.cls) (pre : List ExceptionTableEntry) (x : ExceptionTableEntry) (suf : List ExceptionTableEntry) (hsplit : c.exceptionTable.toList = pre ++ x :: suf)
    (hpass : ∀ z ∈ pre, covers z pc = false ∨ (z.catchType ≠ 0 ∧ ∃ nm : String, (Cond.classLink own z.catchType nm).before args s = true ∧ va_Nc E nm s)) (hx : covers x pc = true) (h0 : x.catchType ≠ 0)
    (hlink : (Cond.classLink own x.catchType name).before args s = true) (hcast : (Cond.castable E name).before args s = true) (hcell : H[q]? = some ce) (hv : ce.vm = .none) (hcl : s.vm.findClass E = some ce.cls)
    (kk : W p l e R s m args below meth c H locs cells slots Q (F0 m x.handlerPc ls [.ref q])) : vx_W p l e R s m args below meth c H locs cells slots Q (F0 m pc ls rest) q := by
  intro T hT X
  have hpl : e.platform.magicAccessors = ({} : Platform).magicAccessors := by rw [X.admits.platform]
  obtain ⟨c3, c4, hc3, hc4, hasg⟩ := Cond.castable_spec hcast
  cases Option.some.inj (hc3.symm.trans hcl)
  obtain ⟨c5, hc5, hcl5⟩ := Cond.classLink_spec hown hlink e.platform hpl
  cases Option.some.inj (hc4.symm.trans hc5)
  obtain ⟨vm', X', st⟩ := X.thenCaughtThrough q (g := F0 m pc ls rest) rfl (Steps.refl _) (by rw [hT]; exact hcell) (by rw [hv]; rfl) (by obtain ⟨k9, h9, -⟩ := Vm.findClass_spec hcl; exact ⟨k9, h9⟩) pre x suf hsplit
    (fun z hz => by
      rcases hpass z hz with h | ⟨hz0, nm, hl1, hn1⟩
      · exact Or.inl h
      · obtain ⟨c6, hc6, hcl6⟩ := Cond.classLink_spec hown hl1 e.platform hpl
        obtain ⟨a8, b8, h1, h2, h3⟩ := hn1
        cases Option.some.inj (h1.symm.trans hcl)
        cases Option.some.inj (h2.symm.trans hc6)
        exact Or.inr ⟨hz0, _, hcl6, h3⟩) hx (Or.inr ⟨h0, c4, hcl5, hasg⟩)
  obtain ⟨t, a1, b1⟩ := kk (T.setVm vm') hT X'
  exact ⟨t, st.trans a1, b1⟩
end Rows
section Ends
variable {p : Program} {l : Launch} {e : Env} {R : Room} {s : State} {m : MethodId} {args : Array Value} {below : List Frame} {meth : Method} {c : Code} {H : Heap} {locs : List Loc} {cells slots : Nat} {Q : State → Prop}
variable {mc ms : Nat} {free : Addr → Prop} {A0 A1 : Nat → Prop} {H0 : Heap} {a : Array Value} {ls : Array Slot} {st0 rest : List Value}
variable {Qc : Array Value → State → Outcome → State → Prop} {XC : String → State → State → Prop}
/-- what a body that may throw owes at its end -/
def vx_MQ (below : List Frame) (Qc : Array Value → State → Outcome → State → Prop) (XC : String → State → State → Prop) (a : Array Value) (s : State) (mc ms : Nat) (free : Addr → Prop) : State → Prop := fun t =>
  ∃ o, t.status = .running ∧ Ended t below o ∧ vx_Q Qc XC mc ms free a s o t
theorem vx_ret {g : JFrame} {mc ms : Nat} (k : W p l e R s m args below meth c H locs cells slots (MQ below Qc args s mc ms free) g) : W p l e R s m args below meth c H locs cells slots (vx_MQ below Qc XC args s mc ms free) g := by
  intro T hT X
  obtain ⟨t, a1, o, b1, b2, b3, b4⟩ := k T hT X
  exact ⟨t, a1, o, b1, b2, Or.inl ⟨b3, b4⟩⟩
/-- not caught here: it goes on to the caller -/
theorem vx_widen {g : JFrame} {q : Addr} {k n : Nat} (h1 : cells ≤ k) (h2 : slots ≤ n) (kk : vx_W p l e R s m args below meth c H locs k n Q g q) : vx_W p l e R s m args below meth c H locs cells slots Q g q := fun T hT X => kk T hT (stand_widen X h1 h2)
theorem vx_out {pc : Nat} {E : String} {ce : Cell} {q : Addr} {mc ms : Nat} (hout : ∀ x ∈ c.exceptionTable.toList, covers x pc = false) (hlocks : meth.locks = false) (hcell : H[q]? = some ce) (hv : ce.vm = .none) (hcl : s.vm.findClass E = some ce.cls)
    (hx : ∀ t : State, t.heap = H → s.vm.Alike t.vm → XC E s t) (hf : ∀ z ∈ locs, free z.base) (hc : cells ≤ mc) (hs : slots ≤ ms) :
    vx_W p l e R s m args below meth c H locs cells slots (vx_MQ below Qc XC args s mc ms free) (F0 m pc ls rest) q := by
  intro T hT X
  obtain ⟨st1, hrun, hend, hW, hsm⟩ := X.leaveThrown q (g := F0 m pc ls rest) rfl rfl rfl hout hlocks
  have hcell9 : (T.setFrames (.throwing q :: below)).heap[q]? = some ce := by
    show T.heap[q]? = some ce
    rw [hT]; exact hcell
  exact ⟨_, st1, .threw q, hrun, hend, Or.inr ⟨q, rfl, E, ce, locs, hx _ hT hW.alike, hcell9, hv, hcl, hW, hsm.mono hc hs, hf⟩⟩
theorem vx_frame {U : State} {k n : Nat} (h : s.sameButNew ({ U with vm := s.vm } : State) locs k n) : s.heap.size ≤ U.heap.size ∧ ∀ q : Nat, q < s.heap.size → (∀ z ∈ locs, z.base ≠ q) → U.heap[q]? = s.heap[q]? := by
  obtain ⟨-, h2, -, -, -, h6⟩ := h
  refine ⟨h2, fun q hq hz => ?_⟩
  obtain ⟨c9, e1, e2, e3, e4⟩ := h6 q _ (Array.getElem?_eq_getElem hq)
  have hs : c9.slots = (s.heap[q]).slots := Array.ext_getElem? fun i => e4 i fun hm => hz _ hm rfl
  have h9 : c9 = s.heap[q] := by
    rw [hs] at e2
    exact e2
  have e5 : U.heap[q]? = some c9 := e1
  rw [e5, h9, Array.getElem?_eq_getElem hq]
/-- the words of a throw but the four that speak of the heap -/
def vx_no (w : Cond) : Bool := decide (w ≠ .isRef (.static Bundle.tN "UNASSIGNED_STACK" Bundle.steD)) && decide (w ≠ .isRef (.static Bundle.tN "SUPPRESSED_SENTINEL" Bundle.listD)) && decide (w ≠ .laysStatic Bundle.tN "UNASSIGNED_STACK" Bundle.steD) && decide (w ≠ .laysStatic Bundle.tN "SUPPRESSED_SENTINEL" Bundle.listD)
def vx_at0 (own : String) (ic : Nat) (X : String) (names : List String) : List Cond := (Bundle.ownAtoms0 own ic X names).filter vx_no
def vx_atS (own : String) (ic : Nat) (X : String) (names : List String) : List Cond := (Bundle.ownAtoms own ic X names).filter vx_no
/-- a word that the tables alone decide, or a good one -/
def vx_ot (w : Cond) : Bool := w.onTables || goodWord w
theorem vx_ot_at {args a' : Array Value} {s U : State} {w : Cond} (hW : s.WarmedH U.vm) (hvm : s.vm = U.vm) (hg : vx_ot w = true) (h : w.before args s = true) : w.before a' U = true := by
  simp only [vx_ot, Bool.or_eq_true] at hg
  rcases hg with hg | hg
  · exact va_tabs hg hvm h
  · exact word_at hW (good_of_word hg) h
/-- a list's words: the good ones out of the method's own list, the others by premises of their own -/
theorem vx_hat {args : Array Value} {s : State} {L B : List Cond} (h1 : ∀ w ∈ L.filter goodWord, w.before args s = true) (h2 : ∀ w ∈ L.filter (fun w => !goodWord w), w ∈ B) (h3 : ∀ w ∈ B, w.before args s = true) : ∀ w ∈ L, w.before args s = true := by
  intro w hw
  by_cases g : goodWord w = true
  · exact h1 w (List.mem_filter.mpr ⟨hw, g⟩)
  · refine h3 w (h2 w (List.mem_filter.mpr ⟨hw, ?_⟩))
    show (!goodWord w) = true
    cases hgw : goodWord w
    · rfl
    · exact absurd hgw g
theorem vx_c {args : Array Value} {s : State} {w : Cond} {B : List Cond} (h : w.before args s = true) (t : ∀ w ∈ B, w.before args s = true) : ∀ w' ∈ w :: B, w'.before args s = true := fun w' h' => (List.mem_cons.mp h').elim (fun e => by rw [e]; exact h) (t w')
theorem vx_n {args : Array Value} {s : State} : ∀ w ∈ ([] : List Cond), w.before args s = true := fun _ h => nomatch h
theorem vx_own {args : Array Value} {s : State} {L : List Cond} (h1 : ∀ w ∈ L.filter vx_no, w.before args s = true)
    (hU : (Cond.isRef (.static Bundle.tN "UNASSIGNED_STACK" Bundle.steD)).before args s = true) (hN : (Cond.isRef (.static Bundle.tN "SUPPRESSED_SENTINEL" Bundle.listD)).before args s = true)
    (lU : (Cond.laysStatic Bundle.tN "UNASSIGNED_STACK" Bundle.steD).before args s = true) (lN : (Cond.laysStatic Bundle.tN "SUPPRESSED_SENTINEL" Bundle.listD).before args s = true) : ∀ w ∈ L, w.before args s = true := by
  intro w hw
  by_cases e1 : w = .isRef (.static Bundle.tN "UNASSIGNED_STACK" Bundle.steD)
  · rw [e1]; exact hU
  · by_cases e2 : w = .isRef (.static Bundle.tN "SUPPRESSED_SENTINEL" Bundle.listD)
    · rw [e2]; exact hN
    · by_cases e3 : w = .laysStatic Bundle.tN "UNASSIGNED_STACK" Bundle.steD
      · rw [e3]; exact lU
      · by_cases e4 : w = .laysStatic Bundle.tN "SUPPRESSED_SENTINEL" Bundle.listD
        · rw [e4]; exact lN
        · exact h1 w (List.mem_filter.mpr ⟨hw, by unfold vx_no; rw [decide_eq_true e1, decide_eq_true e2, decide_eq_true e3, decide_eq_true e4]; rfl⟩)
/-- where a static field lies, its class's statics cell in H -/
def vx_L (C n d : String) (A : Nat → Prop) (U : State) (H : Heap) : Prop := ∃ (c : ClassId) (k : Class) (i : Nat) (f : Field) (a : Nat) (cell : Cell), U.vm.findClass C = some c ∧ U.fieldFound? C n d = some (c, k, i, f) ∧ f.isStatic = true ∧ k.statics = some a ∧ H[a]? = some cell ∧ cell.vm.isStatics = true ∧ cell.cls = c ∧ f.slot < cell.slots.size ∧ k.staticTypes[f.slot]? = some f.type ∧ ¬ A a
theorem vx_L.moved {C n d : String} {A : Nat → Prop} {u U : State} {H : Heap} (hvm : u.vm.Alike U.vm) (h : vx_L C n d A u H) : vx_L C n d A U H := by
  obtain ⟨c, k, i, f, a, cell, h1, h2, h3, h4, h5, h6, h7, h8, h9, h10⟩ := h
  obtain ⟨k', hi', he⟩ := State.fieldFound?_setVm hvm h2
  exact ⟨c, k', i, f, a, cell, by rw [hvm.findClass]; exact h1, hi', h3, by rw [he]; exact h4, h5, h6, h7, h8, by rw [he]; exact h9, h10⟩
theorem vx_L.kept {C n d : String} {A : Nat → Prop} {U : State} {H H1 : Heap} (h : vx_L C n d A U H) (hq : ∀ a : Nat, a < H.size → ¬ A a → H1[a]? = H[a]?) : vx_L C n d A U H1 := by
  obtain ⟨c, k, i, f, a, cell, h1, h2, h3, h4, h5, h6, h7, h8, h9, h10⟩ := h
  exact ⟨c, k, i, f, a, cell, h1, h2, h3, h4, by rw [hq a (Array.getElem?_eq_some_iff.mp h5).1 h10]; exact h5, h6, h7, h8, h9, h10⟩
theorem vx_L.narrow {C n d : String} {A B : Nat → Prop} {U : State} {H : Heap} (h : vx_L C n d A U H) (hAB : ∀ q, B q → A q) : vx_L C n d B U H := by
  obtain ⟨c, k, i, f, a, cell, h1, h2, h3, h4, h5, h6, h7, h8, h9, h10⟩ := h
  exact ⟨c, k, i, f, a, cell, h1, h2, h3, h4, h5, h6, h7, h8, h9, fun z => h10 (hAB _ z)⟩
theorem vx_L.word {C n d : String} {A : Nat → Prop} {s : State} {args : Array Value} (h : vx_L C n d A s s.heap) : (Cond.laysStatic C n d).before args s = true := by
  obtain ⟨c, k, i, f, a, cell, h1, h2, h3, h4, h5, h6, h7, h8, h9, -⟩ := h
  show (Cond.laysStatic C n d).holds args s none s [] = true
  exact Cond.laysStatic_of h1 h2 h3 h4 h5 h6 h7 h8 h9
/-- .. and what it holds: null or some reference -/
def vx_Zq (C n d : String) (A : Nat → Prop) (U : State) (H : Heap) : Prop := va_Zq C n d A U H ∧ vx_L C n d A U H
theorem vx_Zq.moved {C n d : String} {A : Nat → Prop} {u U : State} {H : Heap} (hvm : u.vm.Alike U.vm) (h : vx_Zq C n d A u H) : vx_Zq C n d A U H := ⟨va_Zq.moved hvm h.1, vx_L.moved hvm h.2⟩
theorem vx_Zq.kept {C n d : String} {A : Nat → Prop} {U : State} {H H1 : Heap} (h : vx_Zq C n d A U H) (hq : ∀ a : Nat, a < H.size → ¬ A a → H1[a]? = H[a]?) : vx_Zq C n d A U H1 := ⟨va_Zq.kept h.1 hq, vx_L.kept h.2 hq⟩
theorem vx_Zq.narrow {C n d : String} {A B : Nat → Prop} {U : State} {H : Heap} (h : vx_Zq C n d A U H) (hAB : ∀ q, B q → A q) : vx_Zq C n d B U H := ⟨va_Zq.narrow h.1 hAB, vx_L.narrow h.2 hAB⟩
theorem vx_Zqof {args : Array Value} {s : State} {C n d : String} {A : Nat → Prop} (hl : (Cond.laysStatic C n d).before args s = true) (hini : (Cond.initialized C).before args s = true) (h : (Cond.isRef (.static C n d)).before args s = true) (hA : ∀ a : Nat, a < s.heap.size → ¬ A a) : vx_Zq C n d A s s.heap := by
  refine ⟨va_Zqof hl hini h hA, ?_⟩
  obtain ⟨c, k, i, f, a, cell, h1, h2, h3, h4, h5, h6, h7, h8, h9⟩ := Cond.laysStatic_spec hl
  exact ⟨c, k, i, f, a, cell, h1, h2, h3, h4, h5, h6, h7, h8, h9, hA a (Array.getElem?_eq_some_iff.mp h5).1⟩
theorem vx_isRef {C n d : String} {v : Value} {A : Nat → Prop} {s : State} {args : Array Value} (h : va_Z C n d v A s s.heap) (hv : v.isRef = true) : (Cond.isRef (.static C n d)).before args s = true := by
  obtain ⟨cf, kf, fi, f, a, cell, h1, h2, h3, h4, h5, h6, h7, -⟩ := h
  have he : (Term.static C n d).eval args s none [] s = some v := by
    simp [Term.eval, State.fieldNamed?, h1, h2, h4, h5, h6, h7]
  simp only [Cond.before, Cond.holds, Cond.value, he]
  cases v <;> simp_all [Value.isRef]
theorem vx_isRefq {C n d : String} {A : Nat → Prop} {s : State} {args : Array Value} (h : va_Zq C n d A s s.heap) : (Cond.isRef (.static C n d)).before args s = true := by
  rcases h with h | ⟨t, h⟩
  · exact vx_isRef h rfl
  · exact vx_isRef h rfl
/-- the same frame, seen from here: as if the method were called anew in this heap -/
theorem vx_rebase {T : State} (X : Stand p l e R s m args below meth c T locs cells slots) {R' : Room} (hf : R'.frames ≤ R.frames) (hl : R'.locals ≤ R.locals) (hc : cells + R'.cells ≤ R.cells) (hs : slots + R'.slots ≤ R.slots) :
    Stand p l e R' ((T.setVm s.vm).setFrames (.invoking m args :: below)) m args below meth c T [] 0 0 := by
  have htop : (T.setVm s.vm).topJava?.isSome := X.here.top
  have hF : ((T.setVm s.vm).setFrames (.invoking m args :: below)).frames = .invoking m args :: below := State.frames_setFrames _ (State.cur_lt_of_top htop)
  obtain ⟨g₀, hg0⟩ := Option.isSome_iff_exists.mp htop
  obtain ⟨r, hr⟩ := State.topJava?_eq_some.mp hg0
  have hl9 : e.platform.stackLimits (T.setVm s.vm).me = e.platform.stackLimits s.me := X.limits
  have hb9 : (T.setVm s.vm).me.stackBytes = s.me.stackBytes := X.bytes
  refine ⟨X.admits, X.cas, X.clock, hF, ?_, X.hears, X.method, X.code, X.here, X.tail, X.warmed, ?_, ?_, ?_⟩
  · have h := X.room
    have hU : ((T.setVm s.vm).setFrames (.invoking m args :: below)).localsInUse = s.localsInUse := by
      rw [State.localsInUse_invoking hF (meth := meth) (c := c) X.method X.code, State.localsInUse_invoking X.frames X.method X.code]
    simp only [State.hasRoom, Bool.and_eq_true, decide_eq_true_eq] at h ⊢
    obtain ⟨⟨⟨⟨h1, h2, h3, h4, h5, h6⟩, h7⟩, h8⟩, h9⟩ := h
    rw [X.frames, List.length_cons] at h2 h3
    have q1 := X.heapSize
    have q2 := X.used
    simp only [hF, hU, List.length_cons, State.stackLimits_setFrames, State.stackBytes_setFrames, hl9, hb9]
    refine ⟨⟨⟨⟨by omega, by omega, by omega, by omega, by omega, h6⟩, ?_⟩, ?_⟩, X.book⟩
    · show T.heap.size + R'.cells ≤ e.platform.maxCells
      omega
    · show T.slotsUsed + R'.slots ≤ e.platform.maxSlots
      omega
  · rw [State.stackLimits_setFrames]; rfl
  · rw [State.stackBytes_setFrames]; rfl
  · refine ⟨?_, Nat.le_refl _, Nat.le_refl _, ?_, ?_, fun a c9 h9 => ⟨c9, h9, rfl, rfl, fun _ _ => rfl⟩⟩
    · obtain ⟨t, ht, -⟩ := State.frames_cons hr
      show T.setVm s.vm = { ((T.setVm s.vm).setFrames (.invoking m args :: below)).setFrames (T.setVm s.vm).frames with heap := T.heap, slotsUsed := T.slotsUsed }
      rw [State.setFrames_setFrames, State.setFrames_self ht]
      rfl
    · show T.slotsUsed = T.slotsUsed + ((T.heap.toList.drop T.heap.size).map (·.slots.size)).sum
      rw [List.drop_eq_nil_of_le (Nat.le_of_eq Array.length_toList)]
      rfl
    · show ((T.heap.toList.drop T.heap.size).map (·.slots.size)).sum ≤ 0
      rw [List.drop_eq_nil_of_le (Nat.le_of_eq Array.length_toList)]
      exact Nat.le_refl _
/-- 'throw new E()': new; dup; invokespecial; athrow -/
theorem vx_throw0 {cc : ByteArray} {pc : Nat} (hexec : p.tables.exec = Jvm.exec) (hb : c.code = cc) (hl : l.stackTraces = false) {own cls : String} {names : List String} {ik ic mc ms : Nat} {A : Nat → Prop}
    (hown : s.vm.findClass own = some m.cls) (hcls : Bundle.fit cls = true) (hnames : ∀ n ∈ names, Bundle.fit n = true)
    (hk : (Cond.classLink own ik cls).before args s = true) (hini : (Cond.initialized cls).before args s = true) (hat : ∀ w ∈ vx_at0 own ic cls names, w.before args s = true)
    (hgood : ∀ w ∈ Cond.classLink own ik cls :: Cond.initialized cls :: vx_at0 own ic cls names, vx_ot w = true)
    (hU : vx_Zq Bundle.tN "UNASSIGNED_STACK" Bundle.steD A s s.heap) (hN : vx_Zq Bundle.tN "SUPPRESSED_SENTINEL" Bundle.listD A s s.heap) (hS : va_S A s.heap H locs) (hsize : ls.size = c.maxLocals)
    (d0 : decode cc pc = .ok (.new ik, 3)) (d3 : decode cc (pc + 3) = .ok (.dup, 1)) (d4 : decode cc (pc + 4) = .ok (.invokespecial ic, 3)) (d7 : decode cc (pc + 7) = .ok (.athrow, 1))
    (hout : ∀ x ∈ c.exceptionTable.toList, covers x (pc + 7) = false)
    (hRframes : names.length + 3 < R.frames) (hRlocals : (rest.map fun v => v.category).sum + (13 * (names.length + 1) + 42) ≤ R.locals) (hRcells : cells + 1 ≤ R.cells) (hRslots : slots + 6 ≤ R.slots) (hlocks : meth.locks = false)
    (hx : ∀ t : State, s.vm.Alike t.vm → H.size ≤ t.heap.size → (∀ q : Nat, q < H.size → t.heap[q]? = H[q]?) → XC cls s t)
    (hf : ∀ z ∈ locs, free z.base) (hc : cells + 1 ≤ mc) (hs : slots + 6 ≤ ms) :
    W p l e R s m args below meth c H locs cells slots (vx_MQ below Qc XC args s mc ms free) (F0 m pc ls rest) := by
  intro T hT X
  have htr : e.platform.stackTraces = false := (show e.platform.stackTraces = l.stackTraces by rw [X.admits.platform]).trans hl
  have Y := vx_rebase X (R' := { frames := R.frames, locals := R.locals, cells := 1, slots := 6 }) (Nat.le_refl _) (Nat.le_refl _) hRcells hRslots
  obtain ⟨s', hA⟩ : ∃ z, z = (T.setVm s.vm).setFrames (.invoking m args :: below) := ⟨_, rfl⟩
  rw [← hA] at Y
  have hvm : s'.vm = s.vm := by rw [hA]; rfl
  have hhp : s'.heap = H := by rw [hA]; exact hT
  have hW0 : s.WarmedH s'.vm := by rw [hvm]; exact State.WarmedH.refl s
  have hat' : ∀ w ∈ vx_at0 own ic cls names, w.before args s' = true := fun w hw => vx_ot_at hW0 hvm.symm (hgood w (List.mem_cons_of_mem _ (List.mem_cons_of_mem _ hw))) (hat w hw)
  have hk' : (Cond.classLink own ik cls).before args s' = true := vx_ot_at hW0 hvm.symm (hgood _ List.mem_cons_self) hk
  have hini' : (Cond.initialized cls).before args s' = true := vx_ot_at hW0 hvm.symm (hgood _ (List.mem_cons_of_mem _ List.mem_cons_self)) hini
  have hU' : vx_Zq Bundle.tN "UNASSIGNED_STACK" Bundle.steD A s' s'.heap := by rw [hhp]; exact vx_Zq.moved hW0.alike (hU.kept hS.2.1)
  have hN' : vx_Zq Bundle.tN "SUPPRESSED_SENTINEL" Bundle.listD A s' s'.heap := by rw [hhp]; exact vx_Zq.moved hW0.alike (hN.kept hS.2.1)
  have h : ∀ w ∈ Bundle.ownAtoms0 own ic cls names, w.before args s' = true := vx_own hat' (vx_isRefq hU'.1) (vx_isRefq hN'.1) hU'.2.word hN'.2.word
  have hown' : s'.vm.findClass own = some m.cls := by rw [hvm]; exact hown
  have hins : (Cond.instantiable cls 6).before args s' = true := h _ (by simp [Bundle.ownAtoms0])
  obtain ⟨vm₁, cX, kX, hfX, hkX, -, -, X₁, st1⟩ := Y.newCold hexec (own := own) (C := cls) (index := ik) (n := 6) hown' hk' hins hini'
    (g := F0 m pc ls rest) rfl (by rw [hb]; exact d0) (Nat.le_refl _) (Nat.le_refl _)
  generalize hT1 : (T.setVm vm₁).pushCell { cls := cX, slots := kX.instanceTypes.map defaultValue, vm := .none } = T1 at X₁ st1
  have hcat : (Value.ref T.heap.size).category = 1 := rfl
  have hcellA : T1.heap[T.heap.size]? = some (freshCell cX kX) := by rw [← hT1]; exact State.heap_pushCell_size _ _
  have d3' : decode c.code (pc + 3) = .ok (.dup, 1) := by rw [hb]; exact d3
  obtain ⟨U, hsteps, hrun, hend, hW, hsame, ce, hce, hO⟩ := X₁.ctorThrow0 hexec htr (own := own) (cls := cls) (names := names) (ic := ic) hown' hcls hnames h (fun x hx => nomatch hx) hfX hkX hcellA (by rw [hhp, hT]; exact Nat.le_refl _)
    (g := { method := m, pc := pc + 4, locals := ls, stack := .ref T.heap.size :: .ref T.heap.size :: rest, locked := none }) rfl hsize rfl rfl (rest := rest) rfl
    (by rw [hb]; exact d4) (by rw [hb]; exact d7) hout hRframes (by simp only [List.map_cons, List.sum_cons, hcat]; omega) hlocks
  obtain ⟨f1, f2⟩ := vx_frame hsame
  rw [hhp] at f1 f2
  have hWs : s.WarmedH U.vm := State.WarmedH.trans hW0 hW
  have hcl : s.vm.findClass cls = some ce.cls := by
    have h9 := hO.cls
    rw [hvm] at h9
    exact h9
  have hall : s.sameButNew ({ U with vm := s.vm } : State) locs mc ms := by
    subst hA
    obtain ⟨e1, e2⟩ := hsame
    rw [State.setFrames_setFrames] at e1
    have h2 : (T.setVm s.vm).sameButNew ({ U with vm := s.vm } : State) [] (0 + 1) (0 + 6) := ⟨e1, e2⟩
    have h3 := X.same.trans h2
    rw [List.append_nil] at h3
    exact h3.mono hc hs
  refine ⟨U, ?_, .threw T.heap.size, hrun, hend, Or.inr ⟨T.heap.size, rfl, cls, ce, locs, hx U hWs.alike f1 (fun q hq => f2 q hq (fun z hz => nomatch hz)), hce, hO.vm, hcl, hWs, hall, hf⟩⟩
  refine st1 _ ?_
  show Steps p.tables e below (T1.setTop { method := m, pc := pc + 3, locals := ls, stack := .ref T.heap.size :: rest, locked := none }) _
  jvm_step X₁.here [X₁.here.top, hexec, d3', Value.category]
  exact hsteps
/-- 'throw new E("text")': new; dup; ldc; invokespecial; athrow -/
theorem vx_throwS {cc : ByteArray} {pc : Nat} (hexec : p.tables.exec = Jvm.exec) (hb : c.code = cc) (hl : l.stackTraces = false) {own cls text : String} {names : List String} {ik is ic mc ms sa : Nat} {A : Nat → Prop}
    (hown : s.vm.findClass own = some m.cls) (hcls : Bundle.fit cls = true) (hnames : ∀ n ∈ names, Bundle.fit n = true)
    (hk : (Cond.classLink own ik cls).before args s = true) (hini : (Cond.initialized cls).before args s = true) (hstr : vk_R own is text sa s) (hat : ∀ w ∈ vx_atS own ic cls names, w.before args s = true)
    (hgood : ∀ w ∈ Cond.classLink own ik cls :: Cond.initialized cls :: vx_atS own ic cls names, vx_ot w = true)
    (hU : vx_Zq Bundle.tN "UNASSIGNED_STACK" Bundle.steD A s s.heap) (hN : vx_Zq Bundle.tN "SUPPRESSED_SENTINEL" Bundle.listD A s s.heap) (hS : va_S A s.heap H locs) (hsize : ls.size = c.maxLocals)
    (d0 : decode cc pc = .ok (.new ik, 3)) (d3 : decode cc (pc + 3) = .ok (.dup, 1)) (d4 : decode cc (pc + 4) = .ok (.ldc is, 2)) (d6 : decode cc (pc + 6) = .ok (.invokespecial ic, 3)) (d9 : decode cc (pc + 9) = .ok (.athrow, 1))
    (hout : ∀ x ∈ c.exceptionTable.toList, covers x (pc + 9) = false)
    (hRframes : names.length + 3 < R.frames) (hRlocals : (rest.map fun v => v.category).sum + (13 * (names.length + 1) + 43) ≤ R.locals) (hRcells : cells + 1 ≤ R.cells) (hRslots : slots + 6 ≤ R.slots) (hlocks : meth.locks = false)
    (hx : ∀ t : State, s.vm.Alike t.vm → H.size ≤ t.heap.size → (∀ q : Nat, q < H.size → t.heap[q]? = H[q]?) → XC cls s t)
    (hf : ∀ z ∈ locs, free z.base) (hc : cells + 1 ≤ mc) (hs : slots + 6 ≤ ms) :
    W p l e R s m args below meth c H locs cells slots (vx_MQ below Qc XC args s mc ms free) (F0 m pc ls rest) := by
  intro T hT X
  have htr : e.platform.stackTraces = false := (show e.platform.stackTraces = l.stackTraces by rw [X.admits.platform]).trans hl
  have Y := vx_rebase X (R' := { frames := R.frames, locals := R.locals, cells := 1, slots := 6 }) (Nat.le_refl _) (Nat.le_refl _) hRcells hRslots
  obtain ⟨s', hA⟩ : ∃ z, z = (T.setVm s.vm).setFrames (.invoking m args :: below) := ⟨_, rfl⟩
  rw [← hA] at Y
  have hvm : s'.vm = s.vm := by rw [hA]; rfl
  have hhp : s'.heap = H := by rw [hA]; exact hT
  have hW0 : s.WarmedH s'.vm := by rw [hvm]; exact State.WarmedH.refl s
  have hat' : ∀ w ∈ vx_atS own ic cls names, w.before args s' = true := fun w hw => vx_ot_at hW0 hvm.symm (hgood w (List.mem_cons_of_mem _ (List.mem_cons_of_mem _ hw))) (hat w hw)
  have hk' : (Cond.classLink own ik cls).before args s' = true := vx_ot_at hW0 hvm.symm (hgood _ List.mem_cons_self) hk
  have hini' : (Cond.initialized cls).before args s' = true := vx_ot_at hW0 hvm.symm (hgood _ (List.mem_cons_of_mem _ List.mem_cons_self)) hini
  have hU' : vx_Zq Bundle.tN "UNASSIGNED_STACK" Bundle.steD A s' s'.heap := by rw [hhp]; exact vx_Zq.moved hW0.alike (hU.kept hS.2.1)
  have hN' : vx_Zq Bundle.tN "SUPPRESSED_SENTINEL" Bundle.listD A s' s'.heap := by rw [hhp]; exact vx_Zq.moved hW0.alike (hN.kept hS.2.1)
  have h : ∀ w ∈ Bundle.ownAtoms own ic cls names, w.before args s' = true := vx_own hat' (vx_isRefq hU'.1) (vx_isRefq hN'.1) hU'.2.word hN'.2.word
  have hown' : s'.vm.findClass own = some m.cls := by rw [hvm]; exact hown
  have hins : (Cond.instantiable cls 6).before args s' = true := h _ (by simp [Bundle.ownAtoms])
  obtain ⟨vm₁, cX, kX, hfX, hkX, -, -, X₁, st1⟩ := Y.newCold hexec (own := own) (C := cls) (index := ik) (n := 6) hown' hk' hins hini'
    (g := F0 m pc ls rest) rfl (by rw [hb]; exact d0) (Nat.le_refl _) (Nat.le_refl _)
  generalize hT1 : (T.setVm vm₁).pushCell { cls := cX, slots := kX.instanceTypes.map defaultValue, vm := .none } = T1 at X₁ st1
  have hcat : (Value.ref T.heap.size).category = 1 := rfl
  have hcellA : T1.heap[T.heap.size]? = some (freshCell cX kX) := by rw [← hT1]; exact State.heap_pushCell_size _ _
  have d3' : decode c.code (pc + 3) = .ok (.dup, 1) := by rw [hb]; exact d3
  have d4' : decode c.code (pc + 4) = .ok (.ldc is, 2) := by rw [hb]; exact d4
  have hstr' : vk_R own is text sa s' := vk_R.warm hW0 hstr
  obtain ⟨U, hsteps, hrun, hend, hW, hsame, ce, hce, hO⟩ := X₁.ctorThrowS hexec htr (own := own) (cls := cls) (names := names) (ic := ic) hown' hcls hnames h (fun x hx => nomatch hx) hfX hkX hcellA (by rw [hhp, hT]; exact Nat.le_refl _) (msg := .ref sa) rfl
    (g := { method := m, pc := pc + 6, locals := ls, stack := .ref sa :: .ref T.heap.size :: .ref T.heap.size :: rest, locked := none }) rfl hsize rfl rfl (rest := rest) rfl
    (by rw [hb]; exact d6) (by rw [hb]; exact d9) hout hRframes (by simp only [List.map_cons, List.sum_cons, hcat]; omega) hlocks
  obtain ⟨f1, f2⟩ := vx_frame hsame
  rw [hhp] at f1 f2
  have hWs : s.WarmedH U.vm := State.WarmedH.trans hW0 hW
  have hcl : s.vm.findClass cls = some ce.cls := by
    have h9 := hO.cls
    rw [hvm] at h9
    exact h9
  have hall : s.sameButNew ({ U with vm := s.vm } : State) locs mc ms := by
    subst hA
    obtain ⟨e1, e2⟩ := hsame
    rw [State.setFrames_setFrames] at e1
    have h2 : (T.setVm s.vm).sameButNew ({ U with vm := s.vm } : State) [] (0 + 1) (0 + 6) := ⟨e1, e2⟩
    have h3 := X.same.trans h2
    rw [List.append_nil] at h3
    exact h3.mono hc hs
  refine ⟨U, ?_, .threw T.heap.size, hrun, hend, Or.inr ⟨T.heap.size, rfl, cls, ce, locs, hx U hWs.alike f1 (fun q hq => f2 q hq (fun z hz => nomatch hz)), hce, hO.vm, hcl, hWs, hall, hf⟩⟩
  refine st1 _ ?_
  show Steps p.tables e below (T1.setTop { method := m, pc := pc + 3, locals := ls, stack := .ref T.heap.size :: rest, locked := none }) _
  jvm_step X₁.here [X₁.here.top, hexec, d3', Value.category]
  exact X₁.ldcString hexec (own := own) (text := text) (index := is) (a := sa) hown' hstr'.1 hstr'.2
    (g := { method := m, pc := pc + 4, locals := ls, stack := .ref T.heap.size :: .ref T.heap.size :: rest, locked := none }) rfl d4' _ hsteps
/-- 'throw new E("text")', the text by a wide index -/
theorem vx_throwSW {cc : ByteArray} {pc : Nat} (hexec : p.tables.exec = Jvm.exec) (hb : c.code = cc) (hl : l.stackTraces = false) {own cls text : String} {names : List String} {ik is ic mc ms sa : Nat} {A : Nat → Prop}
    (hown : s.vm.findClass own = some m.cls) (hcls : Bundle.fit cls = true) (hnames : ∀ n ∈ names, Bundle.fit n = true)
    (hk : (Cond.classLink own ik cls).before args s = true) (hini : (Cond.initialized cls).before args s = true) (hstr : vk_R own is text sa s) (hat : ∀ w ∈ vx_atS own ic cls names, w.before args s = true)
    (hgood : ∀ w ∈ Cond.classLink own ik cls :: Cond.initialized cls :: vx_atS own ic cls names, vx_ot w = true)
    (hU : vx_Zq Bundle.tN "UNASSIGNED_STACK" Bundle.steD A s s.heap) (hN : vx_Zq Bundle.tN "SUPPRESSED_SENTINEL" Bundle.listD A s s.heap) (hS : va_S A s.heap H locs) (hsize : ls.size = c.maxLocals)
    (d0 : decode cc pc = .ok (.new ik, 3)) (d3 : decode cc (pc + 3) = .ok (.dup, 1)) (d4 : decode cc (pc + 4) = .ok (.ldc_w is, 3)) (d7 : decode cc (pc + 7) = .ok (.invokespecial ic, 3)) (d10 : decode cc (pc + 10) = .ok (.athrow, 1))
    (hout : ∀ x ∈ c.exceptionTable.toList, covers x (pc + 10) = false)
    (hRframes : names.length + 3 < R.frames) (hRlocals : (rest.map fun v => v.category).sum + (13 * (names.length + 1) + 43) ≤ R.locals) (hRcells : cells + 1 ≤ R.cells) (hRslots : slots + 6 ≤ R.slots) (hlocks : meth.locks = false)
    (hx : ∀ t : State, s.vm.Alike t.vm → H.size ≤ t.heap.size → (∀ q : Nat, q < H.size → t.heap[q]? = H[q]?) → XC cls s t)
    (hf : ∀ z ∈ locs, free z.base) (hc : cells + 1 ≤ mc) (hs : slots + 6 ≤ ms) :
    W p l e R s m args below meth c H locs cells slots (vx_MQ below Qc XC args s mc ms free) (F0 m pc ls rest) := by
  intro T hT X
  have htr : e.platform.stackTraces = false := (show e.platform.stackTraces = l.stackTraces by rw [X.admits.platform]).trans hl
  have Y := vx_rebase X (R' := { frames := R.frames, locals := R.locals, cells := 1, slots := 6 }) (Nat.le_refl _) (Nat.le_refl _) hRcells hRslots
  obtain ⟨s', hA⟩ : ∃ z, z = (T.setVm s.vm).setFrames (.invoking m args :: below) := ⟨_, rfl⟩
  rw [← hA] at Y
  have hvm : s'.vm = s.vm := by rw [hA]; rfl
  have hhp : s'.heap = H := by rw [hA]; exact hT
  have hW0 : s.WarmedH s'.vm := by rw [hvm]; exact State.WarmedH.refl s
  have hat' : ∀ w ∈ vx_atS own ic cls names, w.before args s' = true := fun w hw => vx_ot_at hW0 hvm.symm (hgood w (List.mem_cons_of_mem _ (List.mem_cons_of_mem _ hw))) (hat w hw)
  have hk' : (Cond.classLink own ik cls).before args s' = true := vx_ot_at hW0 hvm.symm (hgood _ List.mem_cons_self) hk
  have hini' : (Cond.initialized cls).before args s' = true := vx_ot_at hW0 hvm.symm (hgood _ (List.mem_cons_of_mem _ List.mem_cons_self)) hini
  have hU' : vx_Zq Bundle.tN "UNASSIGNED_STACK" Bundle.steD A s' s'.heap := by rw [hhp]; exact vx_Zq.moved hW0.alike (hU.kept hS.2.1)
  have hN' : vx_Zq Bundle.tN "SUPPRESSED_SENTINEL" Bundle.listD A s' s'.heap := by rw [hhp]; exact vx_Zq.moved hW0.alike (hN.kept hS.2.1)
  have h : ∀ w ∈ Bundle.ownAtoms own ic cls names, w.before args s' = true := vx_own hat' (vx_isRefq hU'.1) (vx_isRefq hN'.1) hU'.2.word hN'.2.word
  have hown' : s'.vm.findClass own = some m.cls := by rw [hvm]; exact hown
  have hins : (Cond.instantiable cls 6).before args s' = true := h _ (by simp [Bundle.ownAtoms])
  obtain ⟨vm₁, cX, kX, hfX, hkX, -, -, X₁, st1⟩ := Y.newCold hexec (own := own) (C := cls) (index := ik) (n := 6) hown' hk' hins hini'
    (g := F0 m pc ls rest) rfl (by rw [hb]; exact d0) (Nat.le_refl _) (Nat.le_refl _)
  generalize hT1 : (T.setVm vm₁).pushCell { cls := cX, slots := kX.instanceTypes.map defaultValue, vm := .none } = T1 at X₁ st1
  have hcat : (Value.ref T.heap.size).category = 1 := rfl
  have hcellA : T1.heap[T.heap.size]? = some (freshCell cX kX) := by rw [← hT1]; exact State.heap_pushCell_size _ _
  have d3' : decode c.code (pc + 3) = .ok (.dup, 1) := by rw [hb]; exact d3
  have d4' : decode c.code (pc + 4) = .ok (.ldc_w is, 3) := by rw [hb]; exact d4
  have hstr' : vk_R own is text sa s' := vk_R.warm hW0 hstr
  obtain ⟨U, hsteps, hrun, hend, hW, hsame, ce, hce, hO⟩ := X₁.ctorThrowS hexec htr (own := own) (cls := cls) (names := names) (ic := ic) hown' hcls hnames h (fun x hx => nomatch hx) hfX hkX hcellA (by rw [hhp, hT]; exact Nat.le_refl _) (msg := .ref sa) rfl
    (g := { method := m, pc := pc + 7, locals := ls, stack := .ref sa :: .ref T.heap.size :: .ref T.heap.size :: rest, locked := none }) rfl hsize rfl rfl (rest := rest) rfl
    (by rw [hb]; exact d7) (by rw [hb]; exact d10) hout hRframes (by simp only [List.map_cons, List.sum_cons, hcat]; omega) hlocks
  obtain ⟨f1, f2⟩ := vx_frame hsame
  rw [hhp] at f1 f2
  have hWs : s.WarmedH U.vm := State.WarmedH.trans hW0 hW
  have hcl : s.vm.findClass cls = some ce.cls := by
    have h9 := hO.cls
    rw [hvm] at h9
    exact h9
  have hall : s.sameButNew ({ U with vm := s.vm } : State) locs mc ms := by
    subst hA
    obtain ⟨e1, e2⟩ := hsame
    rw [State.setFrames_setFrames] at e1
    have h2 : (T.setVm s.vm).sameButNew ({ U with vm := s.vm } : State) [] (0 + 1) (0 + 6) := ⟨e1, e2⟩
    have h3 := X.same.trans h2
    rw [List.append_nil] at h3
    exact h3.mono hc hs
  refine ⟨U, ?_, .threw T.heap.size, hrun, hend, Or.inr ⟨T.heap.size, rfl, cls, ce, locs, hx U hWs.alike f1 (fun q hq => f2 q hq (fun z hz => nomatch hz)), hce, hO.vm, hcl, hWs, hall, hf⟩⟩
  refine st1 _ ?_
  show Steps p.tables e below (T1.setTop { method := m, pc := pc + 3, locals := ls, stack := .ref T.heap.size :: rest, locked := none }) _
  jvm_step X₁.here [X₁.here.top, hexec, d3', Value.category]
  exact X₁.ldcStringW hexec (own := own) (text := text) (index := is) (a := sa) hown' hstr'.1 hstr'.2
    (g := { method := m, pc := pc + 4, locals := ls, stack := .ref T.heap.size :: .ref T.heap.size :: rest, locked := none }) rfl d4' _ hsteps
end Ends
section Bodies
variable {l : Launch}
theorem vx_ofW {y : MethodName} {ws ws' : List Cond} {rm : Room} {Pc : Array Value → State → Prop} {Qc : Array Value → State → Outcome → State → Prop} {XC : String → State → State → Prop} {mc ms : Nat} {free : Addr → Prop} {cc : ByteArray} {maxL : Nat} {ret : Option FieldType}
    (hy : plainName y.cls = true) (hw : ws = Cond.code y cc maxL ret :: ws')
    (body : ∀ p e s m args below meth c s₁, BodyLoose p l y (headSpec ws rm) cc maxL ret e s m args below meth c s₁ → c.maxLocals = maxL → (∀ x ∈ c.exceptionTable.toList, False) → Pc args s →
      W p l e (headSpec ws rm).room s m args below meth c s.heap [] 0 0 (vx_MQ below Qc XC args s mc ms free) (entryFrame m args maxL)) : vx_Met l y ws rm Pc Qc XC mc ms free := by
  refine MetFree.of_bodyS (code := cc) (maxLocals := maxL) (ret := ret) hy ?_ ?_
  · intro args s m h hn
    obtain ⟨meth, c, h1, h2, h3, h4, h5, h6, -, -⟩ := Cond.code_spec hn (atoms_spec (ws := ws) h _ (by rw [hw]; exact List.mem_cons_self))
    exact ⟨meth, c, h1, h2, h3, h4, h5, h6⟩
  · intro p e s m args below meth c s₁ B hml hP _
    have hh0 : s₁.heap = s.heap := by rw [B.state]; rfl
    have ht : ∀ x ∈ c.exceptionTable.toList, False := by
      obtain ⟨meth9, c9, h1, h2, -, -, -, -, h7, -⟩ := Cond.code_spec B.named (atoms_spec (ws := ws) B.pre _ (by rw [hw]; exact List.mem_cons_self))
      cases Option.some.inj (h1.symm.trans B.method)
      cases Option.some.inj (h2.symm.trans (Stand.of_body B).code)
      intro x hx
      rw [Array.isEmpty_iff.mp h7] at hx
      cases hx
    obtain ⟨t, a1, o, b1, b2, b3⟩ := body p e s m args below meth c s₁ B hml ht hP s₁ hh0 (Stand.of_body B)
    exact ⟨t, o, a1, b1, b2, b3⟩
/-- the table of a body with handlers -/
theorem vx_table {p : Program} {x y : MethodName} {S : Spec} {cc bytes : ByteArray} {maxL maxL' : Nat} {ret ret' : Option FieldType} {e : Env} {s s₁ : State} {m : MethodId} {args : Array Value} {below : List Frame} {meth : Method} {c : Code} {hh : List (Nat × Nat × Nat × Nat)}
    (B : BodyLoose p l y S cc maxL ret e s m args below meth c s₁) (h : (Cond.codeWith y bytes maxL' ret' hh).before args s = true) : c.exceptionTable.toList = tableOf hh := by
  obtain ⟨m9, meth9, c9, hn9, h1, h2, -, -, h6, -⟩ := Cond.codeWith_spec h
  cases Option.some.inj (hn9.symm.trans B.named)
  cases Option.some.inj (h1.symm.trans B.method)
  cases Option.some.inj (h2.symm.trans (Stand.of_body B).code)
  rw [← h6, table_eq]
end Bodies
end VXA
/-! ===== END ===== -/
/-! ===== BEGIN a static call of a method with an exception table ===== -/
section VXS
variable {p : Program} {l : Launch} {e : Env} {R : Room} {s : State} {m : MethodId} {args : Array Value} {below : List Frame} {meth : Method} {c : Code} {T : State} {H : Heap} {locs : List Loc} {cells slots : Nat}
abbrev vx_CSW (R : Room) (s : State) (args : Array Value) (own : String) (index : Nat) (y : MethodName) (bytes : ByteArray) (maxL : Nat) (ret : Option FieldType) (hh : List (Nat × Nat × Nat × Nat)) (ws : List Cond) (rm : Room) (mc ms n : Nat) : Prop :=
  (rm.cells = mc ∧ rm.slots = ms ∧ rm.frames + 1 ≤ R.frames ∧ 8 + (maxL + 11) + rm.locals ≤ R.locals ∧ (∀ w ∈ ws, ∀ (a' : Array Value) (U : State), s.WarmedH U.vm → w.before a' U = true) ∧ Cond.codeWith y bytes maxL ret hh ∈ ws) ∧
  (Cond.codeWith y bytes maxL ret hh).before args s = true ∧ (Cond.initialized y.cls).before args s = true ∧ (y.cls ≠ "java/lang/invoke/MethodHandle" ∧ y.cls ≠ "java/lang/invoke/VarHandle") ∧
  (∀ sig, parseMethodDescriptor y.desc = some sig → n = sig.parameters.length) ∧ (Cond.methodLink own index y).before args s = true ∧ (Cond.static y).before args s = true
theorem vx_cwSW {own : String} {index maxL mc ms : Nat} {y : MethodName} {bytes : ByteArray} {ret : Option FieldType} {hh : List (Nat × Nat × Nat × Nat)} {Ts ws ws' : List Cond} {rm : Room} (n : Nat) (ht : ∀ w ∈ Ts, w.before args s = true) (hT : GoodIn Ts (va_wsS own index y ws)) (hw : ws = Cond.codeWith y bytes maxL ret hh :: ws') (hrc : rm.cells = mc) (hrs : rm.slots = ms)
    (hd : y.cls ≠ "java/lang/invoke/MethodHandle" ∧ y.cls ≠ "java/lang/invoke/VarHandle" ∧ (parseMethodDescriptor y.desc).map (fun d => d.parameters.length) = some n) (hR : rm.frames + 1 ≤ R.frames ∧ 8 + (maxL + 11) + rm.locals ≤ R.locals) :
    vx_CSW R s args own index y bytes maxL ret hh ws rm mc ms n := by
  have ok : ∀ w ∈ va_wsS own index y ws, w.before args s = true := fun w h => ht w (hT w h).1
  have hG : GoodIn Ts ws := fun w h => hT w (by unfold va_wsS; exact List.mem_append_right _ h)
  have hc : Cond.codeWith y bytes maxL ret hh ∈ ws := by rw [hw]; exact List.mem_cons_self
  refine ⟨⟨hrc, hrs, hR.1, hR.2, pay_in ht hG, hc⟩, ht _ (hG _ hc).1, ok _ (by simp [va_wsS]), ⟨hd.1, hd.2.1⟩, fun sig h => ?_, ok _ (by simp [va_wsS]), ok _ (by simp [va_wsS])⟩
  have h2 := hd.2.2
  rw [h] at h2
  exact (Option.some.inj h2).symm
theorem vx_callSW (X : Stand p l e R s m args below meth c T locs cells slots) (hexec : p.tables.exec = Jvm.exec) {own : String} {index : Nat} {y : MethodName} {bytes : ByteArray} {maxL : Nat} {ret : Option FieldType} {hh : List (Nat × Nat × Nat × Nat)}
    (hown : s.vm.findClass own = some m.cls) (hlink : (Cond.methodLink own index y).before args s = true) (hstat : (Cond.static y).before args s = true) (hinit : (Cond.initialized y.cls).before args s = true)
    (hcode : (Cond.codeWith y bytes maxL ret hh).before args s = true) (hy : y.cls ≠ "java/lang/invoke/MethodHandle" ∧ y.cls ≠ "java/lang/invoke/VarHandle")
    {W9 : Nat} {Pre : Pt → Array Value → Prop} {Post : Pt → Array Value → Option Value → Pt → Prop} (hK : Back l R p e below s args y 3 W9 Pre Post)
    {g : JFrame} (hg : g.method = m) (hsize : g.locals.size = c.maxLocals) {argsL rest : List Value} (hlen : ∀ sig, parseMethodDescriptor y.desc = some sig → argsL.length = sig.parameters.length)
    (hstack : g.stack = argsL.reverse ++ rest) (hW : 2 * g.monitorRoom + (rest.map fun v => v.category).sum ≤ W9) (hdg : decode c.code g.pc = .ok (.invokestatic index, 3))
    (hpre : ∀ vm₁, s.WarmedH vm₁ → Pre ⟨T.setVm vm₁, locs, cells, slots⟩ argsL.toArray) :
    ∃ (v : Option Value) (vm₁ : Vm) (B : Pt), s.WarmedH vm₁ ∧ Stand p l e R s m args below meth c B.U B.locs B.cells B.slots ∧ Post ⟨T.setVm vm₁, locs, cells, slots⟩ argsL.toArray v B ∧
      ∀ target, Steps p.tables e below (B.U.setTop { g with pc := g.pc + 3, stack := v.toList ++ rest }) target → Steps p.tables e below (T.setTop g) target := by
  obtain ⟨mk, methM, cM, hnamed, hmethM, -, -, -, -, -, -, hsigM⟩ := Cond.codeWith_spec hcode
  have hstatic : methM.isStatic = true := Cond.static_spec hnamed hmethM hstat
  obtain ⟨kP, hkP, -⟩ := className_of_methodNamed hnamed
  have hinitP : kP.init = .initialized := Cond.initialized_spec (findClass_of_methodNamed hnamed) hkP hinit
  obtain ⟨vm₁, X₁, hstep₁⟩ := X.invokestatic hexec hown hlink hnamed hmethM hstatic hkP hinitP hy (g := g) hg (argsL := argsL) (rest := rest) (hlen _ hsigM) hstack hdg
  obtain ⟨v, B, X', hpost, hsteps⟩ := hK m meth c ⟨T.setVm vm₁, locs, cells, slots⟩ { g with stack := rest } (.invokestatic index) mk argsL.toArray X₁ hg hsize hdg hW (X₁.named hnamed) (hpre vm₁ X₁.warmed)
  exact ⟨v, vm₁, B, X₁.warmed, X', hpost, fun target h => hstep₁ _ fun acts => by rw [doInvoke_state]; exact hsteps.trans h⟩
theorem vx_runSW {y : MethodName} {bytes cc : ByteArray} {maxL nL mc ms n index : Nat} {ret : Option FieldType} {hh : List (Nat × Nat × Nat × Nat)} {ws : List Cond} {rm : Room} {Pc : Array Value → State → Prop} {Qc : Array Value → State → Outcome → State → Prop} {free : Addr → Prop} {Ts : List Cond} {own : String} {As rest : List Value} {g : JFrame}
    (S : CallFix p m c cc nL s args Ts own) (hM : Met l y ws rm Pc Qc mc ms free) (cw : vx_CSW R s args own index y bytes maxL ret hh ws rm mc ms n) (hp : PreS s H Pc As)
    (hg : g.method = m) (hn : As.length = n) (hsize : g.locals.size = nL) (hstack : g.stack = As.reverse ++ rest) (hW : 2 * g.monitorRoom + (rest.map fun v => v.category).sum ≤ 8) (hdg : decode cc g.pc = .ok (.invokestatic index, 3)) (hf : cells + mc ≤ R.cells ∧ slots + ms ≤ R.slots) :
    va_Run p l e R s m args below meth c H locs cells slots mc ms g rest (Qc As.toArray) (free) := by
  obtain ⟨⟨hrc, hrs, hfr, hlo, hws, hcw⟩, hcode, hini, hy, hlen, hl, hstt⟩ := cw
  have hK : Back l R p e below s args y 3 8 (PreOf R mc ms Pc) (PostOf Qc mc ms free) := va_backW (hh := hh) (bytes := bytes) (maxL := maxL) (ret := ret) hM hp.1 hrc hrs hfr hlo hws hcw (fun a' U hW => word_at hW (Or.inl (by first | rfl | simp [Cond.onTables, Cond.keeps, Cond.steady])) hini)
  obtain ⟨hx, hb, hml, ho, -⟩ := S
  intro T hT X
  obtain ⟨v, vm₁, ⟨U', l2, c2, s2⟩, hW₁, X', ⟨g', mk, t, L, e1, e2, hq, h1, hL, h2, h3⟩, st⟩ := vx_callSW X hx (hh := hh) (bytes := bytes) (maxL := maxL) (ret := ret) ho hl hstt hini hcode hy hK hg (hsize.trans hml.symm) (argsL := As) (rest := rest) (fun sig h => hn.trans (hlen sig h)) hstack hW (by rw [hb]; exact hdg)
    (fun vm₁ hW₁ => ⟨hf.1, hf.2, hp.2 (T.setVm vm₁) hT hW₁⟩)
  dsimp only [Pt.U, Pt.locs, Pt.cells, Pt.slots] at X' e1 e2 h1 h2 h3 st
  subst h1; subst h2; subst h3
  exact ⟨v, (T.setVm vm₁).calling g' mk As.toArray, t, U', L, hT, X', hL, e1, e2, hq, st⟩
/-- not caught here, past rows that name other classes: it goes on to the caller -/
theorem vx_outP {p : Program} {l : Launch} {e : Env} {R : Room} {s : State} {m : MethodId} {args : Array Value} {below : List Frame} {meth : Method} {c : Code} {H : Heap} {locs : List Loc} {cells slots : Nat} {free : Addr → Prop} {ls : Array Slot} {rest : List Value} {Qc : Array Value → State → Outcome → State → Prop} {XC : String → State → State → Prop}
    {pc : Nat} {own E : String} {ce : Cell} {q : Addr} {mc ms : Nat} (hown : s.vm.findClass own = some m.cls) (hlocks : meth.locks = false)
    (hpass : ∀ z ∈ c.exceptionTable.toList, covers z pc = false ∨ (z.catchType ≠ 0 ∧ ∃ nm : String, (Cond.classLink own z.catchType nm).before args s = true ∧ va_Nc E nm s)) (hcell : H[q]? = some ce) (hv : ce.vm = .none) (hcl : s.vm.findClass E = some ce.cls)
    (hx : ∀ t : State, t.heap = H → s.vm.Alike t.vm → XC E s t) (hf : ∀ z ∈ locs, free z.base) (hc : cells ≤ mc) (hs : slots ≤ ms) :
    vx_W p l e R s m args below meth c H locs cells slots (vx_MQ below Qc XC args s mc ms free) (F0 m pc ls rest) q := by
  intro T hT X
  have hpl : e.platform.magicAccessors = ({} : Platform).magicAccessors := by rw [X.admits.platform]
  obtain ⟨vm', hW', X', st⟩ := X.outThrough hlocks q (g := F0 m pc ls rest) rfl rfl rfl (cell := ce) (by rw [hT]; exact hcell) (by rw [hv]; rfl)
    (by obtain ⟨k9, h9, -⟩ := Vm.findClass_spec hcl; exact ⟨k9, h9⟩) (fun z hz => by
      rcases hpass z hz with h | ⟨hz0, nm, hl1, hn1⟩
      · exact Or.inl h
      · obtain ⟨c6, hc6, hcl6⟩ := Cond.classLink_spec hown hl1 e.platform hpl
        obtain ⟨a8, b8, h1, h2, h3⟩ := hn1
        cases Option.some.inj (h1.symm.trans hcl)
        cases Option.some.inj (h2.symm.trans hc6)
        exact Or.inr ⟨hz0, _, hcl6, h3⟩)
  obtain ⟨g₀, hfr⟩ := X'.frames_eq
  have hcell9 : ((T.setVm vm').setFrames (.throwing q :: below)).heap[q]? = some ce := by
    show T.heap[q]? = some ce
    rw [hT]; exact hcell
  have hend : Ended ((T.setVm vm').setFrames (.throwing q :: below)) below (.threw q) := State.frames_setFrames _ (State.cur_lt_of_frames hfr)
  refine ⟨(T.setVm vm').setFrames (.throwing q :: below), ?_, .threw q, X'.here.running, hend, Or.inr ⟨q, rfl, E, ce, locs, hx _ hT (X'.ends _).1.alike, hcell9, hv, hcl, (X'.ends _).1, (X'.ends _).2.mono hc hs, hf⟩⟩
  rw [X.pushThrowing_eq]
  exact st
/-- a thing of a world lies in the heap -/
theorem vx_lt {D : va_G} {cl : List vw_C} {ws : va_W} {H1 : Heap} (h : va_P D cl ws H1) {k : Nat} {q : Nat × va_E} (hk : ws[k]? = some q) : q.1 < H1.size := (h k q hk).lt
end VXS
/-! ===== END ===== -/
/-! ===== BEGIN methods with a table of their own: called by a name, returning or throwing ===== -/
section VXH
/-! vx_backW, vx_callVX, vx_callSX, vx_callVW, vx_runVW, vx_runVX, vx_runSX, vx_ofWH follow the same proofs as their sisters above (Free/Laws.lean, Shelf42/LK1.lean); vx_outP calls Shelf42/NT130.lean (outThrough). -/
section
variable {l : Launch} {R : Room} {p : Program} {e : Env} {below : List Frame} {s : State} {sargs : Array Value} {y : MethodName} {len W9 : Nat}
theorem vx_backW {ws : List Cond} {rm : Room} {Pc : Array Value → State → Prop} {Qc : Array Value → State → Outcome → State → Prop} {XC : String → State → State → Prop} {mc ms : Nat} {free : Addr → Prop} {bytes : ByteArray} {maxL : Nat} {ret : Option FieldType} {hh : List (Nat × Nat × Nat × Nat)}
    (hM : vx_Met l y ws rm Pc Qc XC mc ms free) (hblind : FrameBlind Pc) (hrc : rm.cells = mc) (hrs : rm.slots = ms)
    (hframes : rm.frames + 1 ≤ R.frames) (hlocals : W9 + (maxL + 11) + rm.locals ≤ R.locals)
    (hws : ∀ w ∈ ws, ∀ a' U, s.WarmedH U.vm → w.before a' U = true) (hcode : Cond.codeWith y bytes maxL ret hh ∈ ws) (hinit : ∀ a' U, s.WarmedH U.vm → (Cond.initialized y.cls).before a' U = true) :
    vx_Back l R p e below s sargs y len W9 (PreOf R mc ms Pc) (PostOf Qc mc ms free) (vx_Post XC mc ms free) := by
  intro m meth c A g ig mk a X hg hsize hdg hW hn hp
  have h1 : (headSpec ws rm).pre.before a A.U = true := atoms_intro fun w hw => hws w hw _ _ X.warmed
  have h2 : (Cond.codeWith y bytes maxL ret hh).before a A.U = true := hws _ hcode _ _ X.warmed
  have h3 : (Cond.initialized y.cls).before a A.U = true := hinit _ _ X.warmed
  have h4 : A.cells + (headSpec ws rm).room.cells ≤ R.cells := by rw [show (headSpec ws rm).room.cells = mc from hrc]; exact hp.1
  have h5 : A.slots + (headSpec ws rm).room.slots ≤ R.slots := by rw [show (headSpec ws rm).room.slots = ms from hrs]; exact hp.2.1
  have hPc : Pc a (A.U.calling g mk a) := hblind _ _ _ _ hp.2.2
  obtain ⟨U, Ls, c0, s0⟩ := A
  dsimp only [Pt.U, Pt.locs, Pt.cells, Pt.slots] at h1 h2 h3 h4 h5 X hn hPc ⊢
  obtain ⟨m9, methY, cY, hn9, hmY, hcY, -, hlY, -⟩ := Cond.codeWith_spec h2
  cases Option.some.inj (hn9.symm.trans hn)
  obtain ⟨kY, hkY, -⟩ := className_of_methodNamed hn
  have hinitY : kY.init = .initialized := Cond.initialized_spec (findClass_of_methodNamed hn) hkY h3
  have h : At U g.method c below := by rw [hg]; exact X.here
  have hlocals9 : W9 + (maxL + 11) + (headSpec ws rm).room.locals ≤ R.locals := hlocals
  have happ : (headSpec ws rm).appliesLoose y e.platform (U.calling g mk a) = true :=
    Spec.appliesLoose_calling (g := g) h hdg hn hkY hinitY
      (X.room_calling (g := g) (R' := (headSpec ws rm).room) hsize hmY hcY hframes (by rw [hlY]; omega) h4 h5) h1
  obtain ⟨mid, hmid⟩ := h.above
  have hfr : (U.setTop g).frames = (.java g :: mid) ++ below := by rw [State.frames_setTop' g h.top, hmid]; rfl
  obtain ⟨o, s₂, hsteps, -, hend, hq⟩ := Steps.callFree hM p X.admits X.cas X.clock (acts := []) hfr happ hPc trivial
  have hq' : vx_Q Qc XC mc ms free a (U.calling g mk a) o s₂ := hq
  rw [State.frames_setTop' g h.top] at hend
  obtain ⟨g₀, hg0⟩ := Option.isSome_iff_exists.mp h.top
  obtain ⟨r, hr⟩ := State.topJava?_eq_some.mp hg0
  have hr' : (({ U with heap := s₂.heap, slotsUsed := s₂.slotsUsed } : State).setVm s₂.vm).frames = .java g₀ :: r := hr
  rcases hq' with ⟨hqc, L, hfe, hL⟩ | ⟨q, rfl, E, ce, L, hx, hce, hcv, hcl, hW₂, hsm, hL⟩
  · obtain ⟨⟨v, rfl⟩, hW₂, e2, q2, q3, q4, q5, q6⟩ := id hfe
    have e3 : s₂ = ({ (U.calling g mk a).setFrames s₂.frames with heap := s₂.heap, slotsUsed := s₂.slotsUsed } : State).setVm s₂.vm := by
      have : s₂ = ({ s₂ with vm := (U.calling g mk a).vm } : State).setVm s₂.vm := rfl
      rw [e2] at this
      exact this
    obtain ⟨c₂, i₂, len₂, hc₂, hd₂, hf₂⟩ := hend
    have hW' : U.WarmedH s₂.vm := hW₂
    have hcc : c₂ = c := by
      have h1 : s₂.code? g.method = U.code? g.method := by
        rw [State.code?_eq, State.code?_eq, hW'.alike.method?]
      exact Option.some.inj (hc₂.symm.trans (h1.trans h.code))
    subst hcc
    have hlen : len₂ = len := by rw [hdg] at hd₂; cases hd₂; rfl
    subst hlen
    have hs₂ : s₂ = (({ U with heap := s₂.heap, slotsUsed := s₂.slotsUsed } : State).setVm s₂.vm).setTop { g with pc := g.pc + len₂, stack := v.toList ++ g.stack } := by
      refine e3.trans ?_
      rw [hf₂, State.calling_eq h.top, State.setFrames_setFrames, State.setTop_of_frames _ hr', hr]
      rfl
    have hsame : U.sameButNew ({ U with heap := s₂.heap, slotsUsed := s₂.slotsUsed } : State) L mc ms := by
      refine ⟨?_, q2, q3, q4, q5, q6⟩
      obtain ⟨t, ht, -⟩ := State.frames_cons hr
      show ({ U with heap := s₂.heap, slotsUsed := s₂.slotsUsed } : State) = { U.setFrames U.frames with heap := s₂.heap, slotsUsed := s₂.slotsUsed }
      rw [State.setFrames_self ht]
    subst hg
    refine Or.inl ⟨v, ⟨(({ U with heap := s₂.heap, slotsUsed := s₂.slotsUsed } : State).setVm s₂.vm), Ls ++ L, c0 + mc, s0 + ms⟩,
      ⟨X.admits, X.cas, X.clock, X.frames, X.room, X.hears, X.method, X.code, (X.here.setHeapUsed s₂.heap s₂.slotsUsed).setVm hW'.alike, X.tail, State.WarmedH.trans X.warmed hW', X.limits, X.bytes, X.same.trans (hsame.setVm s.vm)⟩,
      ⟨g, mk, s₂, L, rfl, rfl, hqc, rfl, hL, rfl, rfl⟩, ?_⟩
    show Steps p.tables e below _ ((({ U with heap := s₂.heap, slotsUsed := s₂.slotsUsed } : State).setVm s₂.vm).setTop { g with pc := g.pc + len₂, stack := v.toList ++ g.stack })
    rw [← hs₂]
    exact hsteps
  · obtain ⟨e2, q2, q3, q4, q5, q6⟩ := id hsm
    have e3 : s₂ = ({ (U.calling g mk a).setFrames s₂.frames with heap := s₂.heap, slotsUsed := s₂.slotsUsed } : State).setVm s₂.vm := by
      have : s₂ = ({ s₂ with vm := (U.calling g mk a).vm } : State).setVm s₂.vm := rfl
      rw [e2] at this
      exact this
    have hf₂ : s₂.frames = .throwing q :: .java g :: U.frames.tail := hend
    have hW' : U.WarmedH s₂.vm := hW₂
    have hs₂ : s₂ = ((({ U with heap := s₂.heap, slotsUsed := s₂.slotsUsed } : State).setVm s₂.vm).setTop g).pushFrame (.throwing q) := by
      refine e3.trans ?_
      rw [hf₂, State.calling_eq h.top, State.setFrames_setFrames, State.pushFrame, State.frames_setTop _ hr', State.setTop_of_frames _ hr', State.setFrames_setFrames, hr]
      rfl
    have hsame : U.sameButNew ({ U with heap := s₂.heap, slotsUsed := s₂.slotsUsed } : State) L mc ms := by
      refine ⟨?_, q2, q3, q4, q5, q6⟩
      obtain ⟨t, ht, -⟩ := State.frames_cons hr
      show ({ U with heap := s₂.heap, slotsUsed := s₂.slotsUsed } : State) = { U.setFrames U.frames with heap := s₂.heap, slotsUsed := s₂.slotsUsed }
      rw [State.setFrames_self ht]
    subst hg
    refine Or.inr ⟨q, ⟨(({ U with heap := s₂.heap, slotsUsed := s₂.slotsUsed } : State).setVm s₂.vm), Ls ++ L, c0 + mc, s0 + ms⟩,
      ⟨X.admits, X.cas, X.clock, X.frames, X.room, X.hears, X.method, X.code, (X.here.setHeapUsed s₂.heap s₂.slotsUsed).setVm hW'.alike, X.tail, State.WarmedH.trans X.warmed hW', X.limits, X.bytes, X.same.trans (hsame.setVm s.vm)⟩,
      ⟨g, mk, s₂, L, E, ce, rfl, rfl, hx, hce, hcv, hcl, rfl, hL, rfl, rfl⟩, ?_⟩
    show Steps p.tables e below _ (((({ U with heap := s₂.heap, slotsUsed := s₂.slotsUsed } : State).setVm s₂.vm).setTop g).pushFrame (.throwing q))
    rw [← hs₂]
    exact hsteps
end
variable {p : Program} {l : Launch} {e : Env} {R : Room} {s : State} {m : MethodId} {args : Array Value} {below : List Frame} {meth : Method} {c : Code} {T : State} {H : Heap} {locs : List Loc} {cells slots : Nat}
theorem vx_callVX (X : Stand p l e R s m args below meth c T locs cells slots) (hexec : p.tables.exec = Jvm.exec) {own C : String} {index : Nat} {y : MethodName} {bytes : ByteArray} {maxL : Nat} {ret : Option FieldType} {hh : List (Nat × Nat × Nat × Nat)}
    (hown : s.vm.findClass own = some m.cls) (hlink : (Cond.methodLink own index y).before args s = true) (hinst : (Cond.instanceMethod y).before args s = true) (hsel : (Cond.selects C y y).before args s = true)
    (hcode : (Cond.codeWith y bytes maxL ret hh).before args s = true) (hy : y.cls ≠ "java/lang/invoke/MethodHandle" ∧ y.cls ≠ "java/lang/invoke/VarHandle")
    {W9 : Nat} {Pre : Pt → Array Value → Prop} {Post : Pt → Array Value → Option Value → Pt → Prop} {PostX : Pt → Array Value → Addr → Pt → Prop} (hK : vx_Back l R p e below s args y 3 W9 Pre Post PostX)
    {b : Addr} {cellB : Cell} (hcell : T.heap[b]? = some cellB) (hobj : cellB.vm.isStatics = false) (hcls : s.vm.findClass C = some cellB.cls)
    {g : JFrame} (hg : g.method = m) (hsize : g.locals.size = c.maxLocals) {argsL rest : List Value} (hlen : ∀ sig, parseMethodDescriptor y.desc = some sig → argsL.length = sig.parameters.length)
    (hstack : g.stack = argsL.reverse ++ .ref b :: rest) (hW : 2 * g.monitorRoom + (rest.map fun v => v.category).sum ≤ W9) (hdg : decode c.code g.pc = .ok (.invokevirtual index, 3))
    (hpre : ∀ vm₁, s.WarmedH vm₁ → Pre ⟨T.setVm vm₁, locs, cells, slots⟩ (Value.ref b :: argsL).toArray) :
    (∃ (v : Option Value) (vm₁ : Vm) (B : Pt), s.WarmedH vm₁ ∧ Stand p l e R s m args below meth c B.U B.locs B.cells B.slots ∧ Post ⟨T.setVm vm₁, locs, cells, slots⟩ (Value.ref b :: argsL).toArray v B ∧
      ∀ target, Steps p.tables e below (B.U.setTop { g with pc := g.pc + 3, stack := v.toList ++ rest }) target → Steps p.tables e below (T.setTop g) target) ∨
    (∃ (q : Addr) (vm₁ : Vm) (B : Pt), s.WarmedH vm₁ ∧ Stand p l e R s m args below meth c B.U B.locs B.cells B.slots ∧ PostX ⟨T.setVm vm₁, locs, cells, slots⟩ (Value.ref b :: argsL).toArray q B ∧
      Steps p.tables e below (T.setTop g) ((B.U.setTop { g with stack := rest }).pushFrame (.throwing q))) := by
  obtain ⟨mk, methM, hnamed, hmethM, hstM, habM⟩ := Cond.instanceMethod_spec hinst
  obtain ⟨m8, methM', cM, hn8, hmethM', -, -, -, -, -, -, hsigM⟩ := Cond.codeWith_spec hcode
  cases Option.some.inj (hn8.symm.trans hnamed)
  cases hmethM.symm.trans hmethM'
  obtain ⟨c2, r2, m2, q1, q2, q3, q4, kP, hkP, hkPi⟩ := Cond.selects_spec hsel
  cases hcls.symm.trans q1
  cases (State.methodFound?_of_named hnamed hy).symm.trans q2
  cases hnamed.symm.trans q3
  have hselP : selectMethod e.platform s.vm cellB.cls mk = .method mk := by rw [Launch.admits_selectMethod X.admits]; exact q4
  obtain ⟨vm₁, X₁, hstep₁⟩ := X.invokevirtual hexec hown hlink hnamed hmethM hstM hkP hkPi hy (a := b) (cell := cellB) hcell
    (fun z h => by rw [h] at hobj; cases hobj) hselP hmethM habM hkP hkPi (g := g) hg (argsL := argsL) (rest := rest) (hlen _ hsigM) hstack hdg
  rcases hK m meth c ⟨T.setVm vm₁, locs, cells, slots⟩ { g with stack := rest } (.invokevirtual index) mk (Value.ref b :: argsL).toArray X₁ hg hsize hdg hW (X₁.named hnamed) (hpre vm₁ X₁.warmed) with ⟨v, B, X', hpost, hsteps⟩ | ⟨q, B, X', hpost, hsteps⟩
  · exact Or.inl ⟨v, vm₁, B, X₁.warmed, X', hpost, fun target h => hstep₁ _ fun acts => by rw [doInvoke_state]; exact hsteps.trans h⟩
  · exact Or.inr ⟨q, vm₁, B, X₁.warmed, X', hpost, hstep₁ _ fun acts => by rw [doInvoke_state]; exact hsteps⟩
theorem vx_callSX (X : Stand p l e R s m args below meth c T locs cells slots) (hexec : p.tables.exec = Jvm.exec) {own : String} {index : Nat} {y : MethodName} {bytes : ByteArray} {maxL : Nat} {ret : Option FieldType} {hh : List (Nat × Nat × Nat × Nat)}
    (hown : s.vm.findClass own = some m.cls) (hlink : (Cond.methodLink own index y).before args s = true) (hstat : (Cond.static y).before args s = true) (hinit : (Cond.initialized y.cls).before args s = true)
    (hcode : (Cond.codeWith y bytes maxL ret hh).before args s = true) (hy : y.cls ≠ "java/lang/invoke/MethodHandle" ∧ y.cls ≠ "java/lang/invoke/VarHandle")
    {W9 : Nat} {Pre : Pt → Array Value → Prop} {Post : Pt → Array Value → Option Value → Pt → Prop} {PostX : Pt → Array Value → Addr → Pt → Prop} (hK : vx_Back l R p e below s args y 3 W9 Pre Post PostX)
    {g : JFrame} (hg : g.method = m) (hsize : g.locals.size = c.maxLocals) {argsL rest : List Value} (hlen : ∀ sig, parseMethodDescriptor y.desc = some sig → argsL.length = sig.parameters.length)
    (hstack : g.stack = argsL.reverse ++ rest) (hW : 2 * g.monitorRoom + (rest.map fun v => v.category).sum ≤ W9) (hdg : decode c.code g.pc = .ok (.invokestatic index, 3))
    (hpre : ∀ vm₁, s.WarmedH vm₁ → Pre ⟨T.setVm vm₁, locs, cells, slots⟩ argsL.toArray) :
    (∃ (v : Option Value) (vm₁ : Vm) (B : Pt), s.WarmedH vm₁ ∧ Stand p l e R s m args below meth c B.U B.locs B.cells B.slots ∧ Post ⟨T.setVm vm₁, locs, cells, slots⟩ argsL.toArray v B ∧
      ∀ target, Steps p.tables e below (B.U.setTop { g with pc := g.pc + 3, stack := v.toList ++ rest }) target → Steps p.tables e below (T.setTop g) target) ∨
    (∃ (q : Addr) (vm₁ : Vm) (B : Pt), s.WarmedH vm₁ ∧ Stand p l e R s m args below meth c B.U B.locs B.cells B.slots ∧ PostX ⟨T.setVm vm₁, locs, cells, slots⟩ argsL.toArray q B ∧
      Steps p.tables e below (T.setTop g) ((B.U.setTop { g with stack := rest }).pushFrame (.throwing q))) := by
  obtain ⟨mk, methM, cM, hnamed, hmethM, -, -, -, -, -, -, hsigM⟩ := Cond.codeWith_spec hcode
  have hstatic : methM.isStatic = true := Cond.static_spec hnamed hmethM hstat
  obtain ⟨kP, hkP, -⟩ := className_of_methodNamed hnamed
  have hinitP : kP.init = .initialized := Cond.initialized_spec (findClass_of_methodNamed hnamed) hkP hinit
  obtain ⟨vm₁, X₁, hstep₁⟩ := X.invokestatic hexec hown hlink hnamed hmethM hstatic hkP hinitP hy (g := g) hg (argsL := argsL) (rest := rest) (hlen _ hsigM) hstack hdg
  rcases hK m meth c ⟨T.setVm vm₁, locs, cells, slots⟩ { g with stack := rest } (.invokestatic index) mk argsL.toArray X₁ hg hsize hdg hW (X₁.named hnamed) (hpre vm₁ X₁.warmed) with ⟨v, B, X', hpost, hsteps⟩ | ⟨q, B, X', hpost, hsteps⟩
  · exact Or.inl ⟨v, vm₁, B, X₁.warmed, X', hpost, fun target h => hstep₁ _ fun acts => by rw [doInvoke_state]; exact hsteps.trans h⟩
  · exact Or.inr ⟨q, vm₁, B, X₁.warmed, X', hpost, hstep₁ _ fun acts => by rw [doInvoke_state]; exact hsteps⟩
theorem vx_callVW (X : Stand p l e R s m args below meth c T locs cells slots) (hexec : p.tables.exec = Jvm.exec) {own C : String} {index : Nat} {y : MethodName} {bytes : ByteArray} {maxL : Nat} {ret : Option FieldType} {hh : List (Nat × Nat × Nat × Nat)}
    (hown : s.vm.findClass own = some m.cls) (hlink : (Cond.methodLink own index y).before args s = true) (hinst : (Cond.instanceMethod y).before args s = true) (hsel : (Cond.selects C y y).before args s = true)
    (hcode : (Cond.codeWith y bytes maxL ret hh).before args s = true) (hy : y.cls ≠ "java/lang/invoke/MethodHandle" ∧ y.cls ≠ "java/lang/invoke/VarHandle")
    {W9 : Nat} {Pre : Pt → Array Value → Prop} {Post : Pt → Array Value → Option Value → Pt → Prop} (hK : Back l R p e below s args y 3 W9 Pre Post)
    {b : Addr} {cellB : Cell} (hcell : T.heap[b]? = some cellB) (hobj : cellB.vm.isStatics = false) (hcls : s.vm.findClass C = some cellB.cls)
    {g : JFrame} (hg : g.method = m) (hsize : g.locals.size = c.maxLocals) {argsL rest : List Value} (hlen : ∀ sig, parseMethodDescriptor y.desc = some sig → argsL.length = sig.parameters.length)
    (hstack : g.stack = argsL.reverse ++ .ref b :: rest) (hW : 2 * g.monitorRoom + (rest.map fun v => v.category).sum ≤ W9) (hdg : decode c.code g.pc = .ok (.invokevirtual index, 3))
    (hpre : ∀ vm₁, s.WarmedH vm₁ → Pre ⟨T.setVm vm₁, locs, cells, slots⟩ (Value.ref b :: argsL).toArray) :
    ∃ (v : Option Value) (vm₁ : Vm) (B : Pt), s.WarmedH vm₁ ∧ Stand p l e R s m args below meth c B.U B.locs B.cells B.slots ∧ Post ⟨T.setVm vm₁, locs, cells, slots⟩ (Value.ref b :: argsL).toArray v B ∧
      ∀ target, Steps p.tables e below (B.U.setTop { g with pc := g.pc + 3, stack := v.toList ++ rest }) target → Steps p.tables e below (T.setTop g) target := by
  obtain ⟨mk, methM, hnamed, hmethM, hstM, habM⟩ := Cond.instanceMethod_spec hinst
  obtain ⟨m8, methM', cM, hn8, hmethM', -, -, -, -, -, -, hsigM⟩ := Cond.codeWith_spec hcode
  cases Option.some.inj (hn8.symm.trans hnamed)
  cases hmethM.symm.trans hmethM'
  obtain ⟨c2, r2, m2, q1, q2, q3, q4, kP, hkP, hkPi⟩ := Cond.selects_spec hsel
  cases hcls.symm.trans q1
  cases (State.methodFound?_of_named hnamed hy).symm.trans q2
  cases hnamed.symm.trans q3
  have hselP : selectMethod e.platform s.vm cellB.cls mk = .method mk := by rw [Launch.admits_selectMethod X.admits]; exact q4
  obtain ⟨vm₁, X₁, hstep₁⟩ := X.invokevirtual hexec hown hlink hnamed hmethM hstM hkP hkPi hy (a := b) (cell := cellB) hcell
    (fun z h => by rw [h] at hobj; cases hobj) hselP hmethM habM hkP hkPi (g := g) hg (argsL := argsL) (rest := rest) (hlen _ hsigM) hstack hdg
  obtain ⟨v, B, X', hpost, hsteps⟩ := hK m meth c ⟨T.setVm vm₁, locs, cells, slots⟩ { g with stack := rest } (.invokevirtual index) mk (Value.ref b :: argsL).toArray X₁ hg hsize hdg hW (X₁.named hnamed) (hpre vm₁ X₁.warmed)
  exact ⟨v, vm₁, B, X₁.warmed, X', hpost, fun target h => hstep₁ _ fun acts => by rw [doInvoke_state]; exact hsteps.trans h⟩
abbrev vx_CVW (R : Room) (s : State) (args : Array Value) (own C : String) (index : Nat) (y : MethodName) (bytes : ByteArray) (maxL : Nat) (ret : Option FieldType) (hh : List (Nat × Nat × Nat × Nat)) (ws : List Cond) (rm : Room) (mc ms n : Nat) : Prop :=
  (rm.cells = mc ∧ rm.slots = ms ∧ rm.frames + 1 ≤ R.frames ∧ 8 + (maxL + 11) + rm.locals ≤ R.locals ∧ (∀ w ∈ ws, ∀ (a' : Array Value) (U : State), s.WarmedH U.vm → w.before a' U = true) ∧ Cond.codeWith y bytes maxL ret hh ∈ ws) ∧
  (Cond.codeWith y bytes maxL ret hh).before args s = true ∧ (Cond.initialized y.cls).before args s = true ∧ (y.cls ≠ "java/lang/invoke/MethodHandle" ∧ y.cls ≠ "java/lang/invoke/VarHandle") ∧
  (∀ sig, parseMethodDescriptor y.desc = some sig → n = sig.parameters.length) ∧ (Cond.methodLink own index y).before args s = true ∧ (Cond.instanceMethod y).before args s = true ∧ (Cond.selects C y y).before args s = true
theorem vx_cwVW {own C : String} {index maxL mc ms : Nat} {y : MethodName} {bytes : ByteArray} {ret : Option FieldType} {hh : List (Nat × Nat × Nat × Nat)} {Ts ws ws' : List Cond} {rm : Room} (n : Nat) (ht : ∀ w ∈ Ts, w.before args s = true) (hT : GoodIn Ts (wsV own index C y ws)) (hw : ws = Cond.codeWith y bytes maxL ret hh :: ws') (hrc : rm.cells = mc) (hrs : rm.slots = ms)
    (hd : y.cls = C ∧ y.cls ≠ "java/lang/invoke/MethodHandle" ∧ y.cls ≠ "java/lang/invoke/VarHandle" ∧ (parseMethodDescriptor y.desc).map (fun d => d.parameters.length) = some n) (hR : rm.frames + 1 ≤ R.frames ∧ 8 + (maxL + 11) + rm.locals ≤ R.locals) :
    vx_CVW R s args own C index y bytes maxL ret hh ws rm mc ms n := by
  obtain ⟨hC, hd⟩ := hd
  subst hC
  have ok : ∀ w ∈ wsV own index y.cls y ws, w.before args s = true := fun w h => ht w (hT w h).1
  have hG : GoodIn Ts ws := fun w h => hT w (by unfold wsV; exact List.mem_append_right _ h)
  have hc : Cond.codeWith y bytes maxL ret hh ∈ ws := by rw [hw]; exact List.mem_cons_self
  refine ⟨⟨hrc, hrs, hR.1, hR.2, pay_in ht hG, hc⟩, ht _ (hG _ hc).1, ok _ (by simp [wsV]), ⟨hd.1, hd.2.1⟩, fun sig h => ?_, ok _ (by simp [wsV]), ok _ (by simp [wsV]), ok _ (by simp [wsV])⟩
  have h2 := hd.2.2
  rw [h] at h2
  exact (Option.some.inj h2).symm
theorem vx_runVW {y : MethodName} {bytes cc : ByteArray} {maxL nL mc ms n index : Nat} {ret : Option FieldType} {hh : List (Nat × Nat × Nat × Nat)} {ws : List Cond} {rm : Room} {Pc : Array Value → State → Prop} {Qc : Array Value → State → Outcome → State → Prop} {free : Addr → Prop} {Ts : List Cond} {own C : String} {b : Addr} {As rest : List Value} {g : JFrame}
    (S : CallFix p m c cc nL s args Ts own) (hM : Met l y ws rm Pc Qc mc ms free) (cw : vx_CVW R s args own C index y bytes maxL ret hh ws rm mc ms n) (hp : PreV s H C b Pc As)
    (hg : g.method = m) (hn : As.length = n) (hsize : g.locals.size = nL) (hstack : g.stack = As.reverse ++ .ref b :: rest) (hW : 2 * g.monitorRoom + (rest.map fun v => v.category).sum ≤ 8) (hdg : decode cc g.pc = .ok (.invokevirtual index, 3)) (hf : cells + mc ≤ R.cells ∧ slots + ms ≤ R.slots) :
    va_Run p l e R s m args below meth c H locs cells slots mc ms g rest (Qc (Value.ref b :: As).toArray) free := by
  obtain ⟨⟨hrc, hrs, hfr, hlo, hws, hcw⟩, hcode, hini, hy, hlen, hl, hin, hse⟩ := cw
  have hK : Back l R p e below s args y 3 8 (PreOf R mc ms Pc) (PostOf Qc mc ms free) := va_backW (hh := hh) (bytes := bytes) (maxL := maxL) (ret := ret) hM hp.1 hrc hrs hfr hlo hws hcw (fun a' U hW => word_at hW (Or.inl (by first | rfl | simp [Cond.onTables, Cond.keeps, Cond.steady])) hini)
  obtain ⟨hx, hb, hml, ho, -⟩ := S
  obtain ⟨-, ⟨cellB, hcB, hoB, hclB⟩, hPc⟩ := hp
  intro T hT X
  obtain ⟨v, vm₁, ⟨U', l2, c2, s2⟩, hW₁, X', ⟨g', mk, t, L, e1, e2, hq, h1, hL, h2, h3⟩, st⟩ := vx_callVW X hx (C := C) (hh := hh) (bytes := bytes) (maxL := maxL) (ret := ret) ho hl hin hse hcode hy hK (by rw [hT]; exact hcB) hoB hclB hg (hsize.trans hml.symm) (argsL := As) (rest := rest) (fun sig h => hn.trans (hlen sig h)) hstack hW (by rw [hb]; exact hdg)
    (fun vm₁ hW₁ => ⟨hf.1, hf.2, hPc (T.setVm vm₁) hT hW₁⟩)
  dsimp only [Pt.U, Pt.locs, Pt.cells, Pt.slots] at X' e1 e2 h1 h2 h3 st
  subst h1; subst h2; subst h3
  exact ⟨v, (T.setVm vm₁).calling g' mk (Value.ref b :: As).toArray, t, U', L, hT, X', hL, e1, e2, hq, st⟩
section
variable {y : MethodName} {bytes cc : ByteArray} {maxL nL mc ms n index : Nat} {ret : Option FieldType} {ws : List Cond} {rm : Room} {Pc : Array Value → State → Prop} {Qc : Array Value → State → Outcome → State → Prop} {XC : String → State → State → Prop} {free : Addr → Prop} {Ts : List Cond} {own C : String} {b : Addr} {As rest : List Value} {g : JFrame}
theorem vx_runVX {hh : List (Nat × Nat × Nat × Nat)} (S : CallFix p m c cc nL s args Ts own) (hM : vx_Met l y ws rm Pc Qc XC mc ms free) (cw : vx_CVW R s args own C index y bytes maxL ret hh ws rm mc ms n) (hp : PreV s H C b Pc As)
    (hg : g.method = m) (hn : As.length = n) (hsize : g.locals.size = nL) (hstack : g.stack = As.reverse ++ .ref b :: rest) (hW : 2 * g.monitorRoom + (rest.map fun v => v.category).sum ≤ 8) (hdg : decode cc g.pc = .ok (.invokevirtual index, 3)) (hf : cells + mc ≤ R.cells ∧ slots + ms ≤ R.slots) :
    vx_Run p l e R s m args below meth c H locs cells slots mc ms g rest (Qc (Value.ref b :: As).toArray) XC free := by
  obtain ⟨⟨hrc, hrs, hfr, hlo, hws, hcw⟩, hcode, hini, hy, hlen, hl, hin, hse⟩ := cw
  have hK : vx_Back l R p e below s args y 3 8 (PreOf R mc ms Pc) (PostOf Qc mc ms free) (vx_Post XC mc ms free) := vx_backW (hh := hh) (bytes := bytes) (maxL := maxL) (ret := ret) hM hp.1 hrc hrs hfr hlo hws hcw (fun a' U hW => word_at hW (Or.inl (by first | rfl | simp [Cond.onTables, Cond.keeps, Cond.steady])) hini)
  obtain ⟨hx, hb, hml, ho, -⟩ := S
  obtain ⟨-, ⟨cellB, hcB, hoB, hclB⟩, hPc⟩ := hp
  intro T hT X
  rcases vx_callVX X hx (C := C) (hh := hh) (bytes := bytes) (maxL := maxL) (ret := ret) ho hl hin hse hcode hy hK (by rw [hT]; exact hcB) hoB hclB hg (hsize.trans hml.symm) (argsL := As) (rest := rest) (fun sig h => hn.trans (hlen sig h)) hstack hW (by rw [hb]; exact hdg)
    (fun vm₁ hW₁ => ⟨hf.1, hf.2, hPc (T.setVm vm₁) hT hW₁⟩) with ⟨v, vm₁, ⟨U', l2, c2, s2⟩, hW₁, X', ⟨g', mk, t, L, e1, e2, hq, h1, hL, h2, h3⟩, st⟩ | ⟨q, vm₁, ⟨U', l2, c2, s2⟩, hW₁, X', ⟨g', mk, t, L, E, ce, e1, e2, hq, hce, hcv, hcl, h1, hL, h2, h3⟩, st⟩
  · dsimp only [Pt.U, Pt.locs, Pt.cells, Pt.slots] at X' e1 e2 h1 h2 h3 st
    subst h1; subst h2; subst h3
    exact Or.inl ⟨v, (T.setVm vm₁).calling g' mk (Value.ref b :: As).toArray, t, U', L, hT, X', hL, e1, e2, hq, st⟩
  · dsimp only [Pt.U, Pt.locs, Pt.cells, Pt.slots] at X' e1 e2 h1 h2 h3 st hcl
    subst h1; subst h2; subst h3
    exact Or.inr ⟨q, (T.setVm vm₁).calling g' mk (Value.ref b :: As).toArray, t, U', L, E, ce, hT, X', hL, e1, e2, hq, hce, hcv, vx_cls hW₁ hcl, st⟩
theorem vx_runSX {hh : List (Nat × Nat × Nat × Nat)} (S : CallFix p m c cc nL s args Ts own) (hM : vx_Met l y ws rm Pc Qc XC mc ms free) (cw : vx_CSW R s args own index y bytes maxL ret hh ws rm mc ms n) (hp : PreS s H Pc As)
    (hg : g.method = m) (hn : As.length = n) (hsize : g.locals.size = nL) (hstack : g.stack = As.reverse ++ rest) (hW : 2 * g.monitorRoom + (rest.map fun v => v.category).sum ≤ 8) (hdg : decode cc g.pc = .ok (.invokestatic index, 3)) (hf : cells + mc ≤ R.cells ∧ slots + ms ≤ R.slots) :
    vx_Run p l e R s m args below meth c H locs cells slots mc ms g rest (Qc As.toArray) XC free := by
  obtain ⟨⟨hrc, hrs, hfr, hlo, hws, hcw⟩, hcode, hini, hy, hlen, hl, hstt⟩ := cw
  have hK : vx_Back l R p e below s args y 3 8 (PreOf R mc ms Pc) (PostOf Qc mc ms free) (vx_Post XC mc ms free) := vx_backW (hh := hh) (bytes := bytes) (maxL := maxL) (ret := ret) hM hp.1 hrc hrs hfr hlo hws hcw (fun a' U hW => word_at hW (Or.inl (by first | rfl | simp [Cond.onTables, Cond.keeps, Cond.steady])) hini)
  obtain ⟨hx, hb, hml, ho, -⟩ := S
  intro T hT X
  rcases vx_callSX X hx (hh := hh) (bytes := bytes) (maxL := maxL) (ret := ret) ho hl hstt hini hcode hy hK hg (hsize.trans hml.symm) (argsL := As) (rest := rest) (fun sig h => hn.trans (hlen sig h)) hstack hW (by rw [hb]; exact hdg)
    (fun vm₁ hW₁ => ⟨hf.1, hf.2, hp.2 (T.setVm vm₁) hT hW₁⟩) with ⟨v, vm₁, ⟨U', l2, c2, s2⟩, hW₁, X', ⟨g', mk, t, L, e1, e2, hq, h1, hL, h2, h3⟩, st⟩ | ⟨q, vm₁, ⟨U', l2, c2, s2⟩, hW₁, X', ⟨g', mk, t, L, E, ce, e1, e2, hq, hce, hcv, hcl, h1, hL, h2, h3⟩, st⟩
  · dsimp only [Pt.U, Pt.locs, Pt.cells, Pt.slots] at X' e1 e2 h1 h2 h3 st
    subst h1; subst h2; subst h3
    exact Or.inl ⟨v, (T.setVm vm₁).calling g' mk As.toArray, t, U', L, hT, X', hL, e1, e2, hq, st⟩
  · dsimp only [Pt.U, Pt.locs, Pt.cells, Pt.slots] at X' e1 e2 h1 h2 h3 st hcl
    subst h1; subst h2; subst h3
    exact Or.inr ⟨q, (T.setVm vm₁).calling g' mk As.toArray, t, U', L, E, ce, hT, X', hL, e1, e2, hq, hce, hcv, vx_cls hW₁ hcl, st⟩
end
end VXH
theorem vx_ofWH {l : Launch} {y : MethodName} {ws ws' : List Cond} {rm : Room} {Pc : Array Value → State → Prop} {Qc : Array Value → State → Outcome → State → Prop} {XC : String → State → State → Prop} {mc ms : Nat} {free : Addr → Prop} {cc : ByteArray} {maxL : Nat} {ret : Option FieldType} {hh : List (Nat × Nat × Nat × Nat)}
    (hy : plainName y.cls = true) (hw : ws = Cond.codeWith y cc maxL ret hh :: ws')
    (body : ∀ p e s m args below meth c s₁, BodyLoose p l y (headSpec ws rm) cc maxL ret e s m args below meth c s₁ → c.maxLocals = maxL → Pc args s →
      W p l e (headSpec ws rm).room s m args below meth c s.heap [] 0 0 (vx_MQ below Qc XC args s mc ms free) (entryFrame m args maxL)) : vx_Met l y ws rm Pc Qc XC mc ms free := by
  refine MetFree.of_bodyS (code := cc) (maxLocals := maxL) (ret := ret) hy ?_ ?_
  · intro args s m h hn
    obtain ⟨m9, meth, c, hn9, h1, h2, h3, h4, -, h5, h6, -⟩ := Cond.codeWith_spec (atoms_spec (ws := ws) h _ (by rw [hw]; exact List.mem_cons_self))
    cases hn.symm.trans hn9
    exact ⟨meth, c, h1, h2, h3, h4, h5, h6⟩
  · intro p e s m args below meth c s₁ B hml hP _
    have hh0 : s₁.heap = s.heap := by rw [B.state]; rfl
    obtain ⟨t, a1, o, b1, b2, b3⟩ := body p e s m args below meth c s₁ B hml hP s₁ hh0 (Stand.of_body B)
    exact ⟨t, o, a1, b1, b2, b3⟩
/-! ===== END ===== -/
end
section
def rn_M : String := "ThreadHall$Mutex"
def tf_M : u_T := fun k => match k with
  | 0 => ("ThreadHall$Mutex", "row", "LThreadHall$Row;", true)
  | 1 => ("ThreadHall$Mutex", "owner", "I", false)
  | _ => ("ThreadHall$Mutex", "often", "I", false)
def ft_M : Nat → FieldType := fun k => match k with
  | 0 => .object "ThreadHall$Row"
  | 1 => .int
  | _ => .int
theorem nm_M : ∀ a, a < 3 → ∀ b, b < 3 → a ≠ b → (tf_M a).2.1 ≠ (tf_M b).2.1 := by decide +kernel
theorem ft_M_ok : ∀ k, k < 3 → parseFieldDescriptor (tf_M k).2.2.1 = some (ft_M k) := by decide +kernel
def rn_Q : String := "ThreadHall$Pairs"
def tf_Q : u_T := fun k => match k with
  | 0 => ("ThreadHall$Pairs", "specials", "[I", true)
  | 1 => ("ThreadHall$Pairs", "values", "[I", true)
  | _ => ("ThreadHall$Pairs", "size", "I", false)
def ft_Q : Nat → FieldType := fun k => match k with
  | 0 => .array .int
  | 1 => .array .int
  | _ => .int
theorem nm_Q : ∀ a, a < 3 → ∀ b, b < 3 → a ≠ b → (tf_Q a).2.1 ≠ (tf_Q b).2.1 := by decide +kernel
theorem ft_Q_ok : ∀ k, k < 3 → parseFieldDescriptor (tf_Q k).2.2.1 = some (ft_Q k) := by decide +kernel
def rn_P : String := "ThreadHall$Program"
def tf_P : u_T := fun k => match k with
  | 0 => ("ThreadHall$Program", "ops", "[I", true)
  | 1 => ("ThreadHall$Program", "firsts", "[I", true)
  | 2 => ("ThreadHall$Program", "seconds", "[I", true)
  | _ => ("ThreadHall$Program", "size", "I", false)
def ft_P : Nat → FieldType := fun k => match k with
  | 0 => .array .int
  | 1 => .array .int
  | 2 => .array .int
  | _ => .int
theorem nm_P : ∀ a, a < 4 → ∀ b, b < 4 → a ≠ b → (tf_P a).2.1 ≠ (tf_P b).2.1 := by decide +kernel
theorem ft_P_ok : ∀ k, k < 4 → parseFieldDescriptor (tf_P k).2.2.1 = some (ft_P k) := by decide +kernel
def rn_R : String := "ThreadHall$Row"
def tf_R : u_T := fun k => match k with
  | 0 => ("ThreadHall$Row", "threads", "[I", true)
  | _ => ("ThreadHall$Row", "size", "I", false)
def ft_R : Nat → FieldType := fun k => match k with
  | 0 => .array .int
  | _ => .int
theorem nm_R : ∀ a, a < 2 → ∀ b, b < 2 → a ≠ b → (tf_R a).2.1 ≠ (tf_R b).2.1 := by decide +kernel
theorem ft_R_ok : ∀ k, k < 2 → parseFieldDescriptor (tf_R k).2.2.1 = some (ft_R k) := by decide +kernel
def rn_S : String := "ThreadHall$Strand"
def tf_S : u_T := fun k => match k with
  | 0 => ("ThreadHall$Strand", "number", "I", true)
  | 1 => ("ThreadHall$Strand", "program", "LThreadHall$Program;", true)
  | 2 => ("ThreadHall$Strand", "bindings", "LThreadHall$Pairs;", true)
  | 3 => ("ThreadHall$Strand", "hooks", "LThreadHall$Pairs;", true)
  | 4 => ("ThreadHall$Strand", "joiners", "LThreadHall$Row;", true)
  | 5 => ("ThreadHall$Strand", "state", "I", false)
  | 6 => ("ThreadHall$Strand", "place", "I", false)
  | 7 => ("ThreadHall$Strand", "result", "I", false)
  | 8 => ("ThreadHall$Strand", "handler", "I", false)
  | 9 => ("ThreadHall$Strand", "done", "I", false)
  | 10 => ("ThreadHall$Strand", "starts", "I", false)
  | 11 => ("ThreadHall$Strand", "marked", "Z", false)
  | 12 => ("ThreadHall$Strand", "thrown", "Z", false)
  | 13 => ("ThreadHall$Strand", "condition", "I", false)
  | 14 => ("ThreadHall$Strand", "wantedLock", "I", false)
  | 15 => ("ThreadHall$Strand", "wantedOften", "I", false)
  | 16 => ("ThreadHall$Strand", "joined", "I", false)
  | _ => ("ThreadHall$Strand", "joinSpecial", "I", false)
def ft_S : Nat → FieldType := fun k => match k with
  | 0 => .int
  | 1 => .object "ThreadHall$Program"
  | 2 => .object "ThreadHall$Pairs"
  | 3 => .object "ThreadHall$Pairs"
  | 4 => .object "ThreadHall$Row"
  | 5 => .int
  | 6 => .int
  | 7 => .int
  | 8 => .int
  | 9 => .int
  | 10 => .int
  | 11 => .boolean
  | 12 => .boolean
  | 13 => .int
  | 14 => .int
  | 15 => .int
  | 16 => .int
  | _ => .int
theorem nm_S : ∀ a, a < 18 → ∀ b, b < 18 → a ≠ b → (tf_S a).2.1 ≠ (tf_S b).2.1 := by decide +kernel
theorem ft_S_ok : ∀ k, k < 18 → parseFieldDescriptor (tf_S k).2.2.1 = some (ft_S k) := by decide +kernel
def rn_H : String := "ThreadHall"
def tf_H : u_T := fun k => match k with
  | 0 => ("ThreadHall", "strands", "[LThreadHall$Strand;", true)
  | 1 => ("ThreadHall", "mutexes", "[LThreadHall$Mutex;", true)
  | 2 => ("ThreadHall", "conditions", "[LThreadHall$Row;", true)
  | 3 => ("ThreadHall", "globals", "[I", true)
  | 4 => ("ThreadHall", "saidInts", "[I", true)
  | 5 => ("ThreadHall", "saidCount", "I", false)
  | 6 => ("ThreadHall", "sliceLength", "I", false)
  | 7 => ("ThreadHall", "lastTurn", "I", false)
  | 8 => ("ThreadHall", "turns", "I", false)
  | 9 => ("ThreadHall", "instructions", "I", false)
  | 10 => ("ThreadHall", "errors", "I", false)
  | _ => ("ThreadHall", "endings", "I", false)
def ft_H : Nat → FieldType := fun k => match k with
  | 0 => .array (.object "ThreadHall$Strand")
  | 1 => .array (.object "ThreadHall$Mutex")
  | 2 => .array (.object "ThreadHall$Row")
  | 3 => .array .int
  | 4 => .array .int
  | 5 => .int
  | 6 => .int
  | 7 => .int
  | 8 => .int
  | 9 => .int
  | 10 => .int
  | _ => .int
theorem nm_H : ∀ a, a < 12 → ∀ b, b < 12 → a ≠ b → (tf_H a).2.1 ≠ (tf_H b).2.1 := by decide +kernel
theorem ft_H_ok : ∀ k, k < 12 → parseFieldDescriptor (tf_H k).2.2.1 = some (ft_H k) := by decide +kernel
def rn_O : String := "ThreadHallModel"
def tf_O : u_T := fun k => match k with
  | 0 => ("ThreadHallModel", "ops", "[I", true)
  | 1 => ("ThreadHallModel", "as", "[I", true)
  | 2 => ("ThreadHallModel", "bs", "[I", true)
  | 3 => ("ThreadHallModel", "lengths", "[I", true)
  | 4 => ("ThreadHallModel", "globals", "[I", true)
  | 5 => ("ThreadHallModel", "boundSpecial", "[I", true)
  | 6 => ("ThreadHallModel", "boundValue", "[I", true)
  | 7 => ("ThreadHallModel", "bindings", "[I", true)
  | 8 => ("ThreadHallModel", "hookSpecial", "[I", true)
  | 9 => ("ThreadHallModel", "hookValue", "[I", true)
  | 10 => ("ThreadHallModel", "hooks", "[I", true)
  | 11 => ("ThreadHallModel", "state", "[I", true)
  | 12 => ("ThreadHallModel", "place", "[I", true)
  | 13 => ("ThreadHallModel", "result", "[I", true)
  | 14 => ("ThreadHallModel", "handler", "[I", true)
  | 15 => ("ThreadHallModel", "done", "[I", true)
  | 16 => ("ThreadHallModel", "started", "[I", true)
  | 17 => ("ThreadHallModel", "wantedLock", "[I", true)
  | 18 => ("ThreadHallModel", "wantedTimes", "[I", true)
  | 19 => ("ThreadHallModel", "target", "[I", true)
  | 20 => ("ThreadHallModel", "into", "[I", true)
  | 21 => ("ThreadHallModel", "marked", "[Z", true)
  | 22 => ("ThreadHallModel", "thrownLater", "[Z", true)
  | 23 => ("ThreadHallModel", "owner", "[I", true)
  | 24 => ("ThreadHallModel", "times", "[I", true)
  | 25 => ("ThreadHallModel", "lockRow", "[I", true)
  | 26 => ("ThreadHallModel", "lockMany", "[I", true)
  | 27 => ("ThreadHallModel", "waitRow", "[I", true)
  | 28 => ("ThreadHallModel", "waitMany", "[I", true)
  | 29 => ("ThreadHallModel", "joinRow", "[I", true)
  | 30 => ("ThreadHallModel", "joinMany", "[I", true)
  | 31 => ("ThreadHallModel", "said", "[I", true)
  | 32 => ("ThreadHallModel", "counts", "[I", true)
  | 33 => ("ThreadHallModel", "slice", "I", false)
  | 34 => ("ThreadHallModel", "thrown", "I", false)
  | _ => ("ThreadHallModel", "passes", "Z", false)
def ft_O : Nat → FieldType := fun k => match k with
  | 0 => .array .int
  | 1 => .array .int
  | 2 => .array .int
  | 3 => .array .int
  | 4 => .array .int
  | 5 => .array .int
  | 6 => .array .int
  | 7 => .array .int
  | 8 => .array .int
  | 9 => .array .int
  | 10 => .array .int
  | 11 => .array .int
  | 12 => .array .int
  | 13 => .array .int
  | 14 => .array .int
  | 15 => .array .int
  | 16 => .array .int
  | 17 => .array .int
  | 18 => .array .int
  | 19 => .array .int
  | 20 => .array .int
  | 21 => .array .boolean
  | 22 => .array .boolean
  | 23 => .array .int
  | 24 => .array .int
  | 25 => .array .int
  | 26 => .array .int
  | 27 => .array .int
  | 28 => .array .int
  | 29 => .array .int
  | 30 => .array .int
  | 31 => .array .int
  | 32 => .array .int
  | 33 => .int
  | 34 => .int
  | _ => .boolean
theorem nm_O : ∀ a, a < 36 → ∀ b, b < 36 → a ≠ b → (tf_O a).2.1 ≠ (tf_O b).2.1 := by decide +kernel
theorem ft_O_ok : ∀ k, k < 36 → parseFieldDescriptor (tf_O k).2.2.1 = some (ft_O k) := by decide +kernel
def rn_L : String := "ThreadHallLaw"
abbrev cb_H_init : ByteArray := prog_1_method_1_code
def yn_H_init : MethodName := ⟨rn_H, "<init>", "()V"⟩
abbrev cb_S_init : ByteArray := prog_6_method_1_code
def yn_S_init : MethodName := ⟨rn_S, "<init>", "(I)V"⟩
abbrev cb_P_init : ByteArray := prog_4_method_1_code
def yn_P_init : MethodName := ⟨rn_P, "<init>", "()V"⟩
abbrev cb_Q_init : ByteArray := prog_3_method_1_code
def yn_Q_init : MethodName := ⟨rn_Q, "<init>", "(I)V"⟩
abbrev cb_R_init : ByteArray := prog_5_method_1_code
def yn_R_init : MethodName := ⟨rn_R, "<init>", "()V"⟩
abbrev cb_M_init : ByteArray := prog_2_method_1_code
def yn_M_init : MethodName := ⟨rn_M, "<init>", "()V"⟩
abbrev cb_L_add : ByteArray := method_3_code
def yn_L_add : MethodName := ⟨rn_L, "add", "(LThreadHall;IIII[J)I"⟩
abbrev cb_H_add : ByteArray := prog_1_method_2_code
def yn_H_add : MethodName := ⟨rn_H, "add", "(IIII)I"⟩
abbrev cb_H_requireBelow : ByteArray := prog_1_method_15_code
def yn_H_requireBelow : MethodName := ⟨rn_H, "requireBelow", "(II)V"⟩
abbrev cb_H_requireBetween : ByteArray := prog_1_method_14_code
def yn_H_requireBetween : MethodName := ⟨rn_H, "requireBetween", "(III)V"⟩
abbrev cb_H_requireOperand : ByteArray := prog_1_method_16_code
def yn_H_requireOperand : MethodName := ⟨rn_H, "requireOperand", "(II)V"⟩
abbrev cb_H_requireNotAlive : ByteArray := prog_1_method_17_code
def yn_H_requireNotAlive : MethodName := ⟨rn_H, "requireNotAlive", "(LThreadHall$Strand;)V"⟩
abbrev cb_S_isAlive : ByteArray := prog_6_method_2_code
def yn_S_isAlive : MethodName := ⟨rn_S, "isAlive", "()Z"⟩
abbrev cb_P_append : ByteArray := prog_4_method_2_code
def yn_P_append : MethodName := ⟨rn_P, "append", "(III)V"⟩
abbrev cb_L_clear : ByteArray := method_4_code
def yn_L_clear : MethodName := ⟨rn_L, "clear", "(LThreadHall;I[J)I"⟩
abbrev cb_H_clear : ByteArray := prog_1_method_3_code
def yn_H_clear : MethodName := ⟨rn_H, "clear", "(I)I"⟩
abbrev cb_L_start : ByteArray := method_5_code
def yn_L_start : MethodName := ⟨rn_L, "start", "(LThreadHall;I[J)I"⟩
abbrev cb_H_start : ByteArray := prog_1_method_4_code
def yn_H_start : MethodName := ⟨rn_H, "start", "(I)I"⟩
abbrev cb_S_beginAnew : ByteArray := prog_6_method_3_code
def yn_S_beginAnew : MethodName := ⟨rn_S, "beginAnew", "()V"⟩
abbrev cb_S_forgetAll : ByteArray := prog_6_method_4_code
def yn_S_forgetAll : MethodName := ⟨rn_S, "forgetAll", "()V"⟩
abbrev cb_S_forgetInterrupt : ByteArray := prog_6_method_5_code
def yn_S_forgetInterrupt : MethodName := ⟨rn_S, "forgetInterrupt", "()V"⟩
abbrev cb_L_run : ByteArray := method_6_code
def yn_L_run : MethodName := ⟨rn_L, "run", "(LThreadHall;I[J)I"⟩
abbrev cb_H_run : ByteArray := prog_1_method_5_code
def yn_H_run : MethodName := ⟨rn_H, "run", "(I)I"⟩
abbrev cb_H_nextReady : ByteArray := prog_1_method_20_code
def yn_H_nextReady : MethodName := ⟨rn_H, "nextReady", "()I"⟩
abbrev cb_H_takeTurn : ByteArray := prog_1_method_21_code
def yn_H_takeTurn : MethodName := ⟨rn_H, "takeTurn", "(LThreadHall$Strand;)V"⟩
abbrev cb_H_raise : ByteArray := prog_1_method_41_code
def yn_H_raise : MethodName := ⟨rn_H, "raise", "(LThreadHall$Strand;I)V"⟩
abbrev cb_H_finish : ByteArray := prog_1_method_42_code
def yn_H_finish : MethodName := ⟨rn_H, "finish", "(LThreadHall$Strand;I)V"⟩
abbrev cb_H_runHooks : ByteArray := prog_1_method_43_code
def yn_H_runHooks : MethodName := ⟨rn_H, "runHooks", "(LThreadHall$Strand;)V"⟩
abbrev cb_H_read : ByteArray := prog_1_method_24_code
def yn_H_read : MethodName := ⟨rn_H, "read", "(LThreadHall$Strand;I)I"⟩
abbrev cb_Q_latest : ByteArray := prog_3_method_3_code
def yn_Q_latest : MethodName := ⟨rn_Q, "latest", "(I)I"⟩
abbrev cb_H_write : ByteArray := prog_1_method_25_code
def yn_H_write : MethodName := ⟨rn_H, "write", "(LThreadHall$Strand;II)V"⟩
abbrev cb_H_passOn : ByteArray := prog_1_method_34_code
def yn_H_passOn : MethodName := ⟨rn_H, "passOn", "(LThreadHall$Mutex;)V"⟩
abbrev cb_R_takeFirst : ByteArray := prog_5_method_3_code
def yn_R_takeFirst : MethodName := ⟨rn_R, "takeFirst", "()I"⟩
abbrev cb_R_takeOut : ByteArray := prog_5_method_4_code
def yn_R_takeOut : MethodName := ⟨rn_R, "takeOut", "(I)V"⟩
abbrev cb_M_give : ByteArray := prog_2_method_3_code
def yn_M_give : MethodName := ⟨rn_M, "give", "(II)V"⟩
abbrev cb_H_wakeJoiners : ByteArray := prog_1_method_44_code
def yn_H_wakeJoiners : MethodName := ⟨rn_H, "wakeJoiners", "(LThreadHall$Strand;)V"⟩
abbrev cb_H_countInstruction : ByteArray := prog_1_method_22_code
def yn_H_countInstruction : MethodName := ⟨rn_H, "countInstruction", "(LThreadHall$Strand;)V"⟩
abbrev cb_H_perform : ByteArray := prog_1_method_23_code
def yn_H_perform : MethodName := ⟨rn_H, "perform", "(LThreadHall$Strand;III)I"⟩
abbrev cb_H_bind : ByteArray := prog_1_method_26_code
def yn_H_bind : MethodName := ⟨rn_H, "bind", "(LThreadHall$Strand;II)I"⟩
abbrev cb_Q_isFull : ByteArray := prog_3_method_2_code
def yn_Q_isFull : MethodName := ⟨rn_Q, "isFull", "()Z"⟩
abbrev cb_Q_append : ByteArray := prog_3_method_4_code
def yn_Q_append : MethodName := ⟨rn_Q, "append", "(II)V"⟩
abbrev cb_H_unbind : ByteArray := prog_1_method_27_code
def yn_H_unbind : MethodName := ⟨rn_H, "unbind", "(LThreadHall$Strand;I)I"⟩
abbrev cb_Q_takeOut : ByteArray := prog_3_method_5_code
def yn_Q_takeOut : MethodName := ⟨rn_Q, "takeOut", "(I)V"⟩
abbrev cb_H_goFor : ByteArray := prog_1_method_31_code
def yn_H_goFor : MethodName := ⟨rn_H, "goFor", "(LThreadHall$Strand;II)V"⟩
abbrev cb_M_isOpenTo : ByteArray := prog_2_method_2_code
def yn_M_isOpenTo : MethodName := ⟨rn_M, "isOpenTo", "(I)Z"⟩
abbrev cb_R_append : ByteArray := prog_5_method_2_code
def yn_R_append : MethodName := ⟨rn_R, "append", "(I)V"⟩
abbrev cb_H_unlock : ByteArray := prog_1_method_32_code
def yn_H_unlock : MethodName := ⟨rn_H, "unlock", "(LThreadHall$Strand;I)I"⟩
abbrev cb_H_tryLock : ByteArray := prog_1_method_33_code
def yn_H_tryLock : MethodName := ⟨rn_H, "tryLock", "(LThreadHall$Strand;II)V"⟩
abbrev cb_H_beginWait : ByteArray := prog_1_method_35_code
def yn_H_beginWait : MethodName := ⟨rn_H, "beginWait", "(LThreadHall$Strand;II)I"⟩
abbrev cb_H_tellFirst : ByteArray := prog_1_method_36_code
def yn_H_tellFirst : MethodName := ⟨rn_H, "tellFirst", "(LThreadHall$Row;)V"⟩
abbrev cb_H_tellAll : ByteArray := prog_1_method_37_code
def yn_H_tellAll : MethodName := ⟨rn_H, "tellAll", "(LThreadHall$Row;)V"⟩
abbrev cb_H_startOther : ByteArray := prog_1_method_38_code
def yn_H_startOther : MethodName := ⟨rn_H, "startOther", "(LThreadHall$Strand;)I"⟩
abbrev cb_H_beginJoin : ByteArray := prog_1_method_39_code
def yn_H_beginJoin : MethodName := ⟨rn_H, "beginJoin", "(LThreadHall$Strand;II)I"⟩
abbrev cb_H_interruptAlive : ByteArray := prog_1_method_40_code
def yn_H_interruptAlive : MethodName := ⟨rn_H, "interruptAlive", "(LThreadHall$Strand;)V"⟩
abbrev cb_H_hook : ByteArray := prog_1_method_28_code
def yn_H_hook : MethodName := ⟨rn_H, "hook", "(LThreadHall$Strand;II)I"⟩
abbrev cb_H_jumpIfZero : ByteArray := prog_1_method_29_code
def yn_H_jumpIfZero : MethodName := ⟨rn_H, "jumpIfZero", "(LThreadHall$Strand;II)V"⟩
abbrev cb_H_keepSaid : ByteArray := prog_1_method_30_code
def yn_H_keepSaid : MethodName := ⟨rn_H, "keepSaid", "(I)V"⟩
abbrev cb_L_interrupt : ByteArray := method_7_code
def yn_L_interrupt : MethodName := ⟨rn_L, "interrupt", "(LThreadHall;I[J)I"⟩
abbrev cb_H_interrupt : ByteArray := prog_1_method_6_code
def yn_H_interrupt : MethodName := ⟨rn_H, "interrupt", "(I)I"⟩
abbrev cb_L_slice : ByteArray := method_8_code
def yn_L_slice : MethodName := ⟨rn_L, "slice", "(LThreadHall;I[J)I"⟩
abbrev cb_H_slice : ByteArray := prog_1_method_7_code
def yn_H_slice : MethodName := ⟨rn_H, "slice", "(I)I"⟩
abbrev cb_L_global : ByteArray := method_9_code
def yn_L_global : MethodName := ⟨rn_L, "global", "(LThreadHall;II[J)I"⟩
abbrev cb_H_global : ByteArray := prog_1_method_8_code
def yn_H_global : MethodName := ⟨rn_H, "global", "(II)I"⟩
abbrev cb_L_special : ByteArray := method_10_code
def yn_L_special : MethodName := ⟨rn_L, "special", "(LThreadHall;II[J)I"⟩
abbrev cb_H_special : ByteArray := prog_1_method_9_code
def yn_H_special : MethodName := ⟨rn_H, "special", "(II)I"⟩
abbrev cb_L_look : ByteArray := method_11_code
def yn_L_look : MethodName := ⟨rn_L, "look", "(LThreadHall;II[J)I"⟩
abbrev cb_H_look : ByteArray := prog_1_method_10_code
def yn_H_look : MethodName := ⟨rn_H, "look", "(II)I"⟩
abbrev cb_L_lock : ByteArray := method_12_code
def yn_L_lock : MethodName := ⟨rn_L, "lock", "(LThreadHall;II[J)I"⟩
abbrev cb_H_lock : ByteArray := prog_1_method_11_code
def yn_H_lock : MethodName := ⟨rn_H, "lock", "(II)I"⟩
abbrev cb_L_said : ByteArray := method_13_code
def yn_L_said : MethodName := ⟨rn_L, "said", "(LThreadHall;I[J)I"⟩
abbrev cb_H_said : ByteArray := prog_1_method_12_code
def yn_H_said : MethodName := ⟨rn_H, "said", "(I)I"⟩
abbrev cb_L_count : ByteArray := method_14_code
def yn_L_count : MethodName := ⟨rn_L, "count", "(LThreadHall;I[J)I"⟩
abbrev cb_H_count : ByteArray := prog_1_method_13_code
def yn_H_count : MethodName := ⟨rn_H, "count", "(I)I"⟩
abbrev cb_H_aliveCount : ByteArray := prog_1_method_18_code
def yn_H_aliveCount : MethodName := ⟨rn_H, "aliveCount", "()I"⟩
abbrev cb_H_readyCount : ByteArray := prog_1_method_19_code
def yn_H_readyCount : MethodName := ⟨rn_H, "readyCount", "()I"⟩
abbrev cb_O_init : ByteArray := prog_8_method_1_code
def yn_O_init : MethodName := ⟨rn_O, "<init>", "()V"⟩
abbrev cb_O_thrown : ByteArray := prog_8_method_4_code
def yn_O_thrown : MethodName := ⟨rn_O, "thrown", "()I"⟩
abbrev cb_O_add : ByteArray := prog_8_method_7_code
def yn_O_add : MethodName := ⟨rn_O, "add", "(IIII)I"⟩
abbrev cb_O_is : ByteArray := prog_8_method_2_code
def yn_O_is : MethodName := ⟨rn_O, "is", "(III)Z"⟩
abbrev cb_O_fits : ByteArray := prog_8_method_6_code
def yn_O_fits : MethodName := ⟨rn_O, "fits", "(III)Z"⟩
abbrev cb_O_refuse : ByteArray := prog_8_method_3_code
def yn_O_refuse : MethodName := ⟨rn_O, "refuse", "(I)I"⟩
abbrev cb_O_alive : ByteArray := prog_8_method_5_code
def yn_O_alive : MethodName := ⟨rn_O, "alive", "(I)Z"⟩
abbrev cb_O_clear : ByteArray := prog_8_method_8_code
def yn_O_clear : MethodName := ⟨rn_O, "clear", "(I)I"⟩
abbrev cb_O_run : ByteArray := prog_8_method_28_code
def yn_O_run : MethodName := ⟨rn_O, "run", "(I)I"⟩
abbrev cb_O_ready : ByteArray := prog_8_method_27_code
def yn_O_ready : MethodName := ⟨rn_O, "ready", "()I"⟩
abbrev cb_O_turn : ByteArray := prog_8_method_29_code
def yn_O_turn : MethodName := ⟨rn_O, "turn", "(I)V"⟩
abbrev cb_O_error : ByteArray := prog_8_method_14_code
def yn_O_error : MethodName := ⟨rn_O, "error", "(II)V"⟩
abbrev cb_O_end : ByteArray := prog_8_method_13_code
def yn_O_end : MethodName := ⟨rn_O, "end", "(II)V"⟩
abbrev cb_O_get : ByteArray := prog_8_method_10_code
def yn_O_get : MethodName := ⟨rn_O, "get", "(II)I"⟩
abbrev cb_O_bound : ByteArray := prog_8_method_9_code
def yn_O_bound : MethodName := ⟨rn_O, "bound", "(II)I"⟩
abbrev cb_O_put : ByteArray := prog_8_method_11_code
def yn_O_put : MethodName := ⟨rn_O, "put", "(III)V"⟩
abbrev cb_O_pass : ByteArray := prog_8_method_15_code
def yn_O_pass : MethodName := ⟨rn_O, "pass", "(I)V"⟩
abbrev cb_O_act : ByteArray := prog_8_method_26_code
def yn_O_act : MethodName := ⟨rn_O, "act", "(IIII)V"⟩
abbrev cb_O_bind : ByteArray := prog_8_method_23_code
def yn_O_bind : MethodName := ⟨rn_O, "bind", "(III)V"⟩
abbrev cb_O_unbind : ByteArray := prog_8_method_24_code
def yn_O_unbind : MethodName := ⟨rn_O, "unbind", "(II)V"⟩
abbrev cb_O_locks : ByteArray := prog_8_method_25_code
def yn_O_locks : MethodName := ⟨rn_O, "locks", "(IIII)V"⟩
abbrev cb_O_goFor : ByteArray := prog_8_method_16_code
def yn_O_goFor : MethodName := ⟨rn_O, "goFor", "(III)V"⟩
abbrev cb_O_await : ByteArray := prog_8_method_21_code
def yn_O_await : MethodName := ⟨rn_O, "await", "(III)V"⟩
abbrev cb_O_isStopped : ByteArray := prog_8_method_20_code
def yn_O_isStopped : MethodName := ⟨rn_O, "isStopped", "(I)Z"⟩
abbrev cb_O_leaveWait : ByteArray := prog_8_method_17_code
def yn_O_leaveWait : MethodName := ⟨rn_O, "leaveWait", "(I)V"⟩
abbrev cb_O_begin : ByteArray := prog_8_method_12_code
def yn_O_begin : MethodName := ⟨rn_O, "begin", "(I)Z"⟩
abbrev cb_O_join : ByteArray := prog_8_method_22_code
def yn_O_join : MethodName := ⟨rn_O, "join", "(III)V"⟩
abbrev cb_O_interrupted : ByteArray := prog_8_method_19_code
def yn_O_interrupted : MethodName := ⟨rn_O, "interrupted", "(I)Z"⟩
abbrev cb_O_leaveJoin : ByteArray := prog_8_method_18_code
def yn_O_leaveJoin : MethodName := ⟨rn_O, "leaveJoin", "(I)V"⟩
abbrev cb_O_start : ByteArray := prog_8_method_30_code
def yn_O_start : MethodName := ⟨rn_O, "start", "(I)I"⟩
abbrev cb_O_interrupt : ByteArray := prog_8_method_31_code
def yn_O_interrupt : MethodName := ⟨rn_O, "interrupt", "(I)I"⟩
abbrev cb_O_slice : ByteArray := prog_8_method_32_code
def yn_O_slice : MethodName := ⟨rn_O, "slice", "(I)I"⟩
abbrev cb_O_global : ByteArray := prog_8_method_33_code
def yn_O_global : MethodName := ⟨rn_O, "global", "(II)I"⟩
abbrev cb_O_special : ByteArray := prog_8_method_34_code
def yn_O_special : MethodName := ⟨rn_O, "special", "(II)I"⟩
abbrev cb_O_look : ByteArray := prog_8_method_35_code
def yn_O_look : MethodName := ⟨rn_O, "look", "(II)I"⟩
abbrev cb_O_lock : ByteArray := prog_8_method_36_code
def yn_O_lock : MethodName := ⟨rn_O, "lock", "(II)I"⟩
abbrev cb_O_said : ByteArray := prog_8_method_37_code
def yn_O_said : MethodName := ⟨rn_O, "said", "(I)I"⟩
abbrev cb_O_count : ByteArray := prog_8_method_38_code
def yn_O_count : MethodName := ⟨rn_O, "count", "(I)I"⟩
end
section
/-! ===== the abstract memory: a cell's name is (tag, number); ints, references, lengths; how many cells of a tag there are ===== -/
abbrev th_V : Type := Int32 ⊕ Option (Nat × Nat)
abbrev th_I : Type := Nat → Nat → Nat → Int32
abbrev th_R : Type := Nat → Nat → Nat → Option (Nat × Nat)
abbrev th_M : Type := (Nat → Nat) × th_I × th_R × (Nat → Nat → Nat) × Nat
abbrev th_A : Type := Nat → Nat → Nat
def th_IAE : String := "java/lang/IllegalArgumentException"
def th_ISE : String := "java/lang/IllegalStateException"
def th_IOB : String := "java/lang/IndexOutOfBoundsException"
def th_lp (j : Nat) : Nat := if j % 2 = 0 then 12 else 4
def th_Cl : List vw_C := [(rn_M, tf_M, 3), (rn_Q, tf_Q, 3), (rn_P, tf_P, 4), (rn_R, tf_R, 2), (rn_S, tf_S, 18), (rn_H, tf_H, 12), (rn_O, tf_O, 36)]
/-- a tag's kind: an object of the list th_Cl, an array of ints (or truth values), of references, of longs; array types by number -/
def th_kd : Nat → Nat × Nat
  | 0 => (0, 5)
  | 1 => (2, 2)
  | 2 => (2, 3)
  | 3 => (2, 4)
  | 6 => (0, 4)
  | 7 => (0, 2)
  | 11 => (0, 1)
  | 14 => (0, 3)
  | 16 => (0, 0)
  | 17 => (3, 5)
  | 20 => (0, 6)
  | 42 => (1, 1)
  | 43 => (1, 1)
  | _ => (1, 0)
def th_ty (cA : Nat → ClassId) : List (ClassId × FieldType) := [(cA 0, .int), (cA 1, .boolean), (cA 2, .object "ThreadHall$Strand"), (cA 3, .object "ThreadHall$Mutex"), (cA 4, .object "ThreadHall$Row"), (cA 5, .long)]
/-- how many cells a tag has, when all is made -/
def th_cn : Nat → Nat
  | 6 => 5
  | 7 => 5
  | 8 => 5
  | 9 => 5
  | 10 => 5
  | 11 => 10
  | 12 => 10
  | 13 => 10
  | 14 => 11
  | 15 => 11
  | 16 => 3
  | 18 => 0
  | 19 => 0
  | t => if t < 54 then 1 else 0
/-- which slots hold references -/
def th_fr : Nat → Nat → Bool
  | 0, k => Nat.blt k 5
  | 6, k => Nat.blt 0 k && Nat.blt k 5
  | 7, k => Nat.blt k 3
  | 11, k => Nat.blt k 2
  | 14, k => Nat.blt k 1
  | 16, k => Nat.blt k 1
  | 20, k => Nat.blt k 33
  | _, _ => false
def th_P0 : Nat → Nat → Nat → Option (Nat × Nat)
  | 0, _, k => some (k + 1, 0)
  | 1, _, k => some (6, k)
  | 2, _, k => some (16, k)
  | 3, _, k => some (14, 8 + k)
  | 6, i, 1 => some (7, i)
  | 6, i, 2 => some (11, 2 * i)
  | 6, i, 3 => some (11, 2 * i + 1)
  | 6, i, _ => some (14, i)
  | 7, i, k => some (8 + k, i)
  | 11, i, k => some (12 + k, i)
  | 14, i, _ => some (15, i)
  | 16, i, _ => some (14, 5 + i)
  | 20, _, k => some (21 + k, 0)
  | _, _, _ => none
def th_L0 : Nat → Nat → Nat
  | 1, _ => 5
  | 2, _ => 3
  | 3, _ => 3
  | 4, _ => 4
  | 5, _ => 40
  | 8, _ => 24
  | 9, _ => 24
  | 10, _ => 24
  | 12, j => th_lp j
  | 13, j => th_lp j
  | 15, _ => 5
  | 17, _ => 1
  | 21, _ => 120
  | 22, _ => 120
  | 23, _ => 120
  | 24, _ => 5
  | 25, _ => 4
  | 26, _ => 60
  | 27, _ => 60
  | 28, _ => 5
  | 29, _ => 20
  | 30, _ => 20
  | 31, _ => 5
  | 32, _ => 5
  | 33, _ => 5
  | 34, _ => 5
  | 35, _ => 5
  | 36, _ => 5
  | 37, _ => 5
  | 38, _ => 5
  | 39, _ => 5
  | 40, _ => 5
  | 41, _ => 5
  | 42, _ => 5
  | 43, _ => 5
  | 44, _ => 3
  | 45, _ => 3
  | 46, _ => 15
  | 47, _ => 3
  | 48, _ => 15
  | 49, _ => 3
  | 50, _ => 25
  | 51, _ => 5
  | 52, _ => 40
  | 53, _ => 8
  | _, _ => 0
/-- where a cell lies behind the first one: the order of making -/
def th_ad : Nat → Nat → Nat
  | 0, _ => 0
  | 1, _ => 1
  | 6, i => 2 + 13 * i
  | 7, i => 3 + 13 * i
  | 8, i => 4 + 13 * i
  | 9, i => 5 + 13 * i
  | 10, i => 6 + 13 * i
  | 11, j => 7 + 13 * (j / 2) + 3 * (j % 2)
  | 12, j => 8 + 13 * (j / 2) + 3 * (j % 2)
  | 13, j => 9 + 13 * (j / 2) + 3 * (j % 2)
  | 14, r => if r < 5 then 13 + 13 * r else if r < 8 then 69 + 3 * (r - 5) else 78 + 2 * (r - 8)
  | 15, r => if r < 5 then 14 + 13 * r else if r < 8 then 70 + 3 * (r - 5) else 79 + 2 * (r - 8)
  | 2, _ => 67
  | 16, m => 68 + 3 * m
  | 3, _ => 77
  | 4, _ => 84
  | 5, _ => 85
  | 17, _ => 120
  | t, _ => 66 + t
abbrev th_m (I : th_I) : th_M := (th_cn, I, th_P0, th_L0, 0)
def th_s91 : String × String × Nat × List Int32 := ("ThreadHall", "FIRST_VALUES", 91, [4, 4, 4, 4, 4, 3, 3, 3, 3, 3, 3, 5, 5, 5, 25, 4, 25, 4, 4, 4, 0])
def th_s92 : String × String × Nat × List Int32 := ("ThreadHall", "SECOND_VALUES", 92, [0, 0, 4, 0, 0, 0, 0, 4, 3, 0, 0, 0, 4, 0, 0, 0, 0, 25, 0, 0, 0])
def th_SA : List (String × String × Nat × List Int32) := [th_s91, th_s92]
theorem th_s91_in : th_s91 ∈ th_SA := List.mem_cons_self
theorem th_s92_in : th_s92 ∈ th_SA := List.mem_cons_of_mem _ List.mem_cons_self
def th_AO : List String := ["ThreadHall$Strand", "ThreadHall$Mutex", "ThreadHall$Row"]
def th_NC : List (String × String) := [(th_ISE, th_IAE), (th_IOB, th_IAE), (th_IOB, th_ISE)]
def th_nk : Cond → Bool
  | .castable _ _ => true
  | .declares _ => true
  | .methodLinkNest _ _ _ _ => true
  | _ => false
def th_B : List Cond := lw_tbl.filter goodWord
def th_NB : List Cond := lw_tbl.filter th_nk
theorem th_nw_moved {w : Cond} {s U : State} (hk : th_nk w = true) (hW : s.WarmedH U.vm) (h : va_Nw w s) : va_Nw w U := by
  cases w <;> first | (exact va_Nw.warmC hW h) | (exact va_Nw.warmD hW h) | (exact va_Nw.warmM hW h) | (exact absurd hk (by decide)) | (exact absurd hk Bool.false_ne_true)
theorem th_nk_ot {w : Cond} (hk : th_nk w = true) : w.onTables = true := by
  cases w <;> first | rfl | (exact absurd hk Bool.false_ne_true)
/-- what holds of statics and tables in every frame -/
def th_S (base : Nat) (al : th_A) (U : State) (H : Heap) : Prop :=
  (vx_Zq Bundle.tN "UNASSIGNED_STACK" Bundle.steD (fun q => base ≤ q) U H ∧ vx_Zq Bundle.tN "SUPPRESSED_SENTINEL" Bundle.listD (fun q => base ≤ q) U H ∧ ∀ c ∈ th_AO, va_AO c U) ∧ (∀ w ∈ th_NB, va_Nw w U) ∧ (∀ q ∈ th_NC, va_Nc q.1 q.2 U) ∧
    ∀ q ∈ th_SA, va_Z q.1 q.2.1 "[I" (.ref (al q.2.2.1 0)) (fun q => base ≤ q) U H ∧ va_X (al q.2.2.1 0) q.2.2.2.length (fun k => q.2.2.2.getD k 0) U H ∧ ¬ base ≤ al q.2.2.1 0
theorem th_X_moved {b L : Nat} {xs : Nat → Int32} {s U : State} {H : Heap} (hvm : s.vm.Alike U.vm) (h : va_X b L xs s H) : va_X b L xs U H := by
  obtain ⟨scr, h1, h2, h3⟩ := h
  exact ⟨scr, h1, State.isArrayOf_alike hvm h2, h3⟩
theorem th_S_moved {base : Nat} {al : th_A} {u U : State} {H : Heap} (hW : u.WarmedH U.vm) (h : th_S base al u H) : th_S base al U H := by
  obtain ⟨⟨a, b, g⟩, d, e, f⟩ := h
  exact ⟨⟨vx_Zq.moved hW.alike a, vx_Zq.moved hW.alike b, fun c hc => va_AO.moved hW.alike (g c hc)⟩, fun w hw => th_nw_moved (List.mem_filter.mp hw).2 hW (d w hw), fun q hq => va_Nc.moved hW.alike (e q hq), fun q hq => ⟨va_Z.moved hW.alike (f q hq).1, th_X_moved hW.alike (f q hq).2.1, (f q hq).2.2⟩⟩
theorem th_S_kept {base : Nat} {al : th_A} {s : State} {H : Heap} (h : th_S base al s s.heap) (hq : ∀ a : Nat, a < s.heap.size → ¬ base ≤ a → H[a]? = s.heap[a]?) : th_S base al s H := by
  obtain ⟨⟨a, b, g⟩, d, e, f⟩ := h
  refine ⟨⟨vx_Zq.kept a hq, vx_Zq.kept b hq, g⟩, d, e, fun q hq1 => ⟨va_Z.kept (f q hq1).1 hq, ?_, (f q hq1).2.2⟩⟩
  obtain ⟨scr, h1, h2, h3⟩ := (f q hq1).2.1
  exact ⟨scr, by rw [hq _ (Array.getElem?_eq_some_iff.mp h1).1 (f q hq1).2.2]; exact h1, h2, h3⟩
theorem th_S_nw {base : Nat} {al : th_A} {U : State} {H : Heap} (h : th_S base al U H) (w : Cond) (hw : w ∈ th_NB) : va_Nw w U := h.2.1 w hw
end
section
def th_cv (al : th_A) (v : th_V) : Value := match v with
  | .inl x => .int x
  | .inr none => .null
  | .inr (some q) => .ref (al q.1 q.2)
theorem th_cv_cat (al : th_A) (v : th_V) : (th_cv al v).category = 1 := by
  rcases v with x | _ | q <;> rfl
def th_u (I : th_I) (t i k : Nat) (v : Int32) : th_I := fun t' i' => if t' = t ∧ i' = i then upd (I t i) k v else I t' i'
def th_ur (I : th_R) (t i k : Nat) (v : Option (Nat × Nat)) : th_R := fun t' i' => if t' = t ∧ i' = i then va_up (I t i) k v else I t' i'
theorem th_u_self (I : th_I) (t i k : Nat) (v : Int32) : th_u I t i k v t i = upd (I t i) k v := by simp [th_u]
theorem th_u_ne (I : th_I) {t i t' i' : Nat} (k : Nat) (v : Int32) (h : ¬ (t' = t ∧ i' = i)) : th_u I t i k v t' i' = I t' i' := by simp [th_u, h]
theorem th_ur_self (I : th_R) (t i k : Nat) (v : Option (Nat × Nat)) : th_ur I t i k v t i = va_up (I t i) k v := by simp [th_ur]
theorem th_ur_ne (I : th_R) {t i t' i' : Nat} (k : Nat) (v : Option (Nat × Nat)) (h : ¬ (t' = t ∧ i' = i)) : th_ur I t i k v t' i' = I t' i' := by simp [th_ur, h]
def th_aok (base : Nat) (al : th_A) : Prop := ∀ t i, t < 90 → al t i = base + th_ad t i
def th_fv (al : th_A) (mu : th_M) (t i k : Nat) : Value := if th_fr t k = true then th_cv al (.inr (mu.2.2.1 t i k)) else .int (mu.2.1 t i k)
def th_ck (D : va_G) (cA : Nat → ClassId) (al : th_A) (mu : th_M) (t i : Nat) (H : Heap) : Prop := match th_kd t with
  | (0, ci) => ∃ r : vw_C, th_Cl[ci]? = some r ∧ t_OB (al t i) (D.1 ci) r.2.2 (D.2 ci) H (fun k => th_fv al mu t i k)
  | (1, j) => H[al t i]? = some (arrV (cA j) (mu.2.2.2.1 t i) (fun k => .int (mu.2.1 t i k)))
  | (2, j) => H[al t i]? = some (arrV (cA j) (mu.2.2.2.1 t i) (fun k => th_cv al (.inr (mu.2.2.1 t i k))))
  | (_, j) => H[al t i]? = some (arrV (cA j) (mu.2.2.2.1 t i) (fun k => .long (mu.2.1 t i k).toInt64))
theorem th_ck_obj {D : va_G} {cA : Nat → ClassId} {al : th_A} {mu : th_M} {t i ci : Nat} {H : Heap} {r : vw_C} (h : th_ck D cA al mu t i H) (hk : th_kd t = (0, ci)) (hc : th_Cl[ci]? = some r) : t_OB (al t i) (D.1 ci) r.2.2 (D.2 ci) H (fun k => th_fv al mu t i k) := by
  unfold th_ck at h
  rw [hk] at h
  obtain ⟨r', h1, h2⟩ := h
  cases Option.some.inj (h1.symm.trans hc)
  exact h2
theorem th_ck_int {D : va_G} {cA : Nat → ClassId} {al : th_A} {mu : th_M} {t i j : Nat} {H : Heap} (h : th_ck D cA al mu t i H) (hk : th_kd t = (1, j)) : H[al t i]? = some (arrV (cA j) (mu.2.2.2.1 t i) (fun k => .int (mu.2.1 t i k))) := by
  unfold th_ck at h
  rw [hk] at h
  exact h
theorem th_ck_ref {D : va_G} {cA : Nat → ClassId} {al : th_A} {mu : th_M} {t i j : Nat} {H : Heap} (h : th_ck D cA al mu t i H) (hk : th_kd t = (2, j)) : H[al t i]? = some (arrV (cA j) (mu.2.2.2.1 t i) (fun k => th_cv al (.inr (mu.2.2.1 t i k)))) := by
  unfold th_ck at h
  rw [hk] at h
  exact h
theorem th_ck_lng {D : va_G} {cA : Nat → ClassId} {al : th_A} {mu : th_M} {t i j : Nat} {H : Heap} (h : th_ck D cA al mu t i H) (hk : th_kd t = (3, j)) : H[al t i]? = some (arrV (cA j) (mu.2.2.2.1 t i) (fun k => .long (mu.2.1 t i k).toInt64)) := by
  unfold th_ck at h
  rw [hk] at h
  exact h
theorem th_ck_kept {D : va_G} {cA : Nat → ClassId} {al : th_A} {mu : th_M} {t i : Nat} {H H1 : Heap} (h : th_ck D cA al mu t i H) (hq : H1[al t i]? = H[al t i]?) : th_ck D cA al mu t i H1 := by
  unfold th_ck at h ⊢
  rcases hk : th_kd t with ⟨a, j⟩
  rw [hk] at h
  rcases a with _ | _ | _ | a
  · obtain ⟨r, h1, h2⟩ := h
    exact ⟨r, h1, h2.kept hq⟩
  · exact hq.trans h
  · exact hq.trans h
  · exact hq.trans h
theorem th_ck_lt {D : va_G} {cA : Nat → ClassId} {al : th_A} {mu : th_M} {t i : Nat} {H : Heap} (h : th_ck D cA al mu t i H) : al t i < H.size := by
  unfold th_ck at h
  rcases hk : th_kd t with ⟨a, j⟩
  rw [hk] at h
  rcases a with _ | _ | _ | a
  · obtain ⟨r, h1, cell, h2, -⟩ := h
    exact (Array.getElem?_eq_some_iff.mp h2).1
  · exact (Array.getElem?_eq_some_iff.mp h).1
  · exact (Array.getElem?_eq_some_iff.mp h).1
  · exact (Array.getElem?_eq_some_iff.mp h).1
theorem th_ck_to {D : va_G} {cA : Nat → ClassId} {al : th_A} {mu mu' : th_M} {t i : Nat} {H : Heap} (h : th_ck D cA al mu t i H) (h1 : mu'.2.1 t i = mu.2.1 t i) (h2 : mu'.2.2.1 t i = mu.2.2.1 t i) (h3 : mu'.2.2.2.1 t i = mu.2.2.2.1 t i) : th_ck D cA al mu' t i H := by
  unfold th_ck th_fv at h ⊢
  rw [h1, h2, h3]
  exact h
def th_W (D : va_G) (cA : Nat → ClassId) (base : Nat) (al : th_A) (mu : th_M) (H : Heap) : Prop :=
  (∀ t i, i < mu.1 t → th_ck D cA al mu t i H) ∧ (∀ t i t' i', i < mu.1 t → i' < mu.1 t' → al t i = al t' i' → t = t' ∧ i = i') ∧ (∀ t i, i < mu.1 t → base ≤ al t i) ∧ (mu.2.2.2.2 = 0 ∨ H.size + 1 = base + mu.2.2.2.2)
theorem th_W_put {D : va_G} {cA : Nat → ClassId} {base : Nat} {al : th_A} {mu mu' : th_M} {H H1 : Heap} {t i : Nat} (h : th_W D cA base al mu H) (hi : i < mu.1 t) (hc : mu'.1 = mu.1) (h1 : th_ck D cA al mu' t i H1) (ho : ∀ q, q ≠ al t i → H1[q]? = H[q]?)
    (e1 : ∀ t' i', ¬ (t' = t ∧ i' = i) → mu'.2.1 t' i' = mu.2.1 t' i') (e2 : ∀ t' i', ¬ (t' = t ∧ i' = i) → mu'.2.2.1 t' i' = mu.2.2.1 t' i') (e3 : mu'.2.2.2 = mu.2.2.2) (hz : H1.size = H.size) : th_W D cA base al mu' H1 := by
  obtain ⟨a, b, d, f⟩ := h
  refine ⟨fun t' i' hi' => ?_, fun t1 i1 t2 i2 q1 q2 => b t1 i1 t2 i2 (by rw [← hc]; exact q1) (by rw [← hc]; exact q2), fun t1 i1 q1 => d t1 i1 (by rw [← hc]; exact q1), by rw [e3, hz]; exact f⟩
  by_cases e : t' = t ∧ i' = i
  · obtain ⟨rfl, rfl⟩ := e
    exact h1
  · rw [hc] at hi'
    exact th_ck_kept (th_ck_to (a t' i' hi') (e1 t' i' e) (e2 t' i' e) (by rw [e3])) (ho _ (fun q => e (b t' i' t i hi' hi q)))
def th_mk (mu : th_M) (t i : Nat) : th_M := (fun t' => if t' = t then i + 1 else mu.1 t', mu.2.1, mu.2.2.1, mu.2.2.2.1, mu.2.2.2.2 + 1)
theorem th_W_new {D : va_G} {cA : Nat → ClassId} {base : Nat} {al : th_A} {mu : th_M} {H H1 : Heap} {t i n : Nat} (h : th_W D cA base al mu H) (hn : mu.2.2.2.2 = n + 1) (hi : mu.1 t = i) (had : al t i = base + n) (ho : ∀ q, q < H.size → H1[q]? = H[q]?) (hz : H1.size = H.size + 1) (h1 : th_ck D cA al mu t i H1) : th_W D cA base al (th_mk mu t i) H1 := by
  obtain ⟨a, b, d, f⟩ := h
  have hs : H.size = base + n := by
    rcases f with f | f
    · omega
    · omega
  have cse : ∀ t' i', i' < (th_mk mu t i).1 t' → (t' = t ∧ i' = i) ∨ i' < mu.1 t' := by
    intro t' i' h'
    unfold th_mk at h'
    dsimp only at h'
    by_cases e : t' = t
    · subst e
      rw [if_pos rfl] at h'
      by_cases e2 : i' = i
      · exact Or.inl ⟨rfl, e2⟩
      · exact Or.inr (by omega)
    · rw [if_neg e] at h'
      exact Or.inr h'
  refine ⟨fun t' i' hi' => ?_, fun t1 i1 t2 i2 q1 q2 e => ?_, fun t1 i1 q1 => ?_, Or.inr (by show H1.size + 1 = base + (mu.2.2.2.2 + 1); omega)⟩
  · rcases cse t' i' hi' with ⟨rfl, rfl⟩ | q
    · exact th_ck_to h1 rfl rfl rfl
    · exact th_ck_to (th_ck_kept (a t' i' q) (ho _ (th_ck_lt (a t' i' q)))) rfl rfl rfl
  · rcases cse t1 i1 q1 with ⟨rfl, rfl⟩ | r1 <;> rcases cse t2 i2 q2 with ⟨rfl, rfl⟩ | r2
    · exact ⟨rfl, rfl⟩
    · have := th_ck_lt (a t2 i2 r2)
      omega
    · have := th_ck_lt (a t1 i1 r1)
      omega
    · exact b t1 i1 t2 i2 r1 r2 e
  · rcases cse t1 i1 q1 with ⟨rfl, rfl⟩ | r1
    · omega
    · exact d t1 i1 r1
theorem th_W_ext {D : va_G} {cA : Nat → ClassId} {base : Nat} {al : th_A} {mu mu' : th_M} {H : Heap} (h : th_W D cA base al mu H) (hc : ∀ t, mu'.1 t ≤ mu.1 t) (e1 : ∀ t i, i < mu'.1 t → mu'.2.1 t i = mu.2.1 t i) (e2 : ∀ t i, i < mu'.1 t → mu'.2.2.1 t i = mu.2.2.1 t i) (e3 : ∀ t i, i < mu'.1 t → mu'.2.2.2.1 t i = mu.2.2.2.1 t i) (hz : mu'.2.2.2.2 = 0 ∨ mu'.2.2.2.2 = mu.2.2.2.2) : th_W D cA base al mu' H := by
  obtain ⟨a, b, d, f⟩ := h
  refine ⟨fun t i q => th_ck_to (a t i (Nat.lt_of_lt_of_le q (hc t))) (e1 t i q) (e2 t i q) (e3 t i q), fun t1 i1 t2 i2 q1 q2 => b t1 i1 t2 i2 (Nat.lt_of_lt_of_le q1 (hc t1)) (Nat.lt_of_lt_of_le q2 (hc t2)), fun t i q => d t i (Nat.lt_of_lt_of_le q (hc t)), ?_⟩
  rcases hz with hz | hz
  · exact Or.inl hz
  · rw [hz]; exact f
theorem th_W_grow {D : va_G} {cA : Nat → ClassId} {base : Nat} {al : th_A} {mu : th_M} {H H1 : Heap} (h : th_W D cA base al mu H) (hz : mu.2.2.2.2 = 0) (ho : ∀ q, q < H.size → H1[q]? = H[q]?) : th_W D cA base al mu H1 := by
  obtain ⟨a, b, d, f⟩ := h
  exact ⟨fun t i q => th_ck_kept (a t i q) (ho _ (th_ck_lt (a t i q))), b, d, Or.inl hz⟩
abbrev th_Z : Type := Program × Env × Room × State × MethodId × Array Value × List Frame × Method × Code × (State → Prop) × va_G × (Nat → ClassId) × Nat × th_A
def th_G (l : Launch) (z : th_Z) (nL pc : Nat) (lv : List (Nat × th_V)) (st : List th_V) (mu : th_M) (kc ks : Nat) : Prop := match z with
  | (p, e, R, s, m, args, below, meth, c, Q, D, cA, base, al) => ∀ (H : Heap) (locs : List Loc) (ls : Array Slot), th_W D cA base al mu H → va_S (fun q => base ≤ q) s.heap H locs → lv_has ls nL (lv.map fun q => (q.1, th_cv al q.2)) →
      W p l e R s m args below meth c H locs kc ks Q (F0 m pc ls (st.map (th_cv al)))
def th_C (l : Launch) (z : th_Z) (cc : ByteArray) (nL : Nat) (own : String) (rm : Room) (ret : Option FieldType) (tb : List ExceptionTableEntry) : Prop := match z with
  | (p, _e, R, s, m, args, _below, meth, c, _Q, D, cA, base, al) => p.tables.exec = Jvm.exec ∧ c.code = cc ∧ c.maxLocals = nL ∧ s.vm.findClass own = some m.cls ∧ (∀ w ∈ th_B, w.before args s = true) ∧ meth.locks = false ∧ va_K D th_Cl (th_ty cA) s ∧ th_S base al s s.heap ∧ base ≤ s.heap.size ∧ R = rm ∧ meth.sig.returnType = ret ∧ c.exceptionTable.toList = tb ∧ l.stackTraces = false ∧ th_aok base al
def th_N (z : th_Z) (nm : String) : Prop := match z with
  | (_p, _e, _R, _s, _m, _args, _below, meth, _c, _Q, _D, _cA, _base, _al) => meth.name = nm
abbrev th_O : Type := Option th_V ⊕ String
abbrev th_P : Type := th_O → th_M → Prop
def th_Qc (D : va_G) (cA : Nat → ClassId) (base : Nat) (al : th_A) (Φ : th_P) : Array Value → State → Outcome → State → Prop := fun _ st o t =>
  (∃ (v : Option th_V) (mu' : th_M), Φ (.inl v) mu' ∧ o = .returned (v.map (th_cv al)) ∧ th_W D cA base al mu' t.heap) ∧ va_F (fun q => base ≤ q) st t
def th_Xc (D : va_G) (cA : Nat → ClassId) (base : Nat) (al : th_A) (Φ : th_P) : String → State → State → Prop := fun E st t =>
  (∃ mu' : th_M, Φ (.inr E) mu' ∧ th_W D cA base al mu' t.heap) ∧ va_F (fun q => base ≤ q) st t
def th_Q (z : th_Z) (Φ : th_P) (mc ms : Nat) : Prop := match z with
  | (_p, _e, _R, s, _m, args, below, _meth, _c, Q, D, cA, base, al) => Q = vx_MQ below (th_Qc D cA base al Φ) (th_Xc D cA base al Φ) args s mc ms (fun q => base ≤ q)
def th_Pc (D : va_G) (cA : Nat → ClassId) (base : Nat) (al : th_A) (as : List th_V) (mu : th_M) : Array Value → State → Prop := fun v U =>
  v = (as.map (th_cv al)).toArray ∧ base ≤ U.heap.size ∧ th_W D cA base al mu U.heap ∧ va_K D th_Cl (th_ty cA) U ∧ th_S base al U U.heap
def th_F (l : Launch) (y : MethodName) (cc : ByteArray) (mL : Nat) (ret : Option FieldType) (rm : Room) (as : List th_V) (mu : th_M) (Φ : th_P) : Prop :=
  ∀ (D : va_G) (cA : Nat → ClassId) (base : Nat) (al : th_A), th_aok base al → vx_Met l y (.code y cc mL ret :: th_B) rm (th_Pc D cA base al as mu) (th_Qc D cA base al Φ) (th_Xc D cA base al Φ) rm.cells rm.slots (fun q => base ≤ q)
def th_X (l : Launch) (z : th_Z) (nL pc : Nat) (lv : List (Nat × th_V)) (E : String) (mu : th_M) (kc ks : Nat) : Prop := match z with
  | (p, e, R, s, m, args, below, meth, c, Q, D, cA, base, al) => ∀ (H : Heap) (locs : List Loc) (ls : Array Slot) (rest : List Value) (q : Addr) (ce : Cell), th_W D cA base al mu H → va_S (fun q => base ≤ q) s.heap H locs → lv_has ls nL (lv.map fun q => (q.1, th_cv al q.2)) →
      H[q]? = some ce → ce.vm = .none → s.vm.findClass E = some ce.cls → vx_W p l e R s m args below meth c H locs kc ks Q (F0 m pc ls rest) q
def th_lk : List (Nat × th_V) → Nat → Option th_V
  | [], _ => none
  | q :: l, i => if q.1 = i then some q.2 else th_lk l i
theorem th_lk_mem : ∀ {lv : List (Nat × th_V)} {i : Nat} {v : th_V}, th_lk lv i = some v → (i, v) ∈ lv
  | [], _, _, h => by cases h
  | q :: l, i, v, h => by
    unfold th_lk at h
    by_cases e : q.1 = i
    · rw [if_pos e] at h
      cases h
      subst e
      exact List.mem_cons_self
    · rw [if_neg e] at h
      exact List.mem_cons_of_mem _ (th_lk_mem h)
theorem th_lk_at {lv : List (Nat × th_V)} {i nL : Nat} {v : th_V} {al : th_A} {ls : Array Slot} (h : th_lk lv i = some v) (hl : lv_has ls nL (lv.map fun q => (q.1, th_cv al q.2))) : ls[i]? = some (.val (th_cv al v)) :=
  hl.2.2 (i, th_cv al v) (List.mem_map.mpr ⟨(i, v), th_lk_mem h, rfl⟩)
def th_in : List (Nat × th_V) → Nat → th_V → List (Nat × th_V)
  | [], i, v => [(i, v)]
  | q :: l, i, v => if i < q.1 then (i, v) :: q :: l else q :: th_in l i v
theorem th_in_mem : ∀ {l : List (Nat × th_V)} {i : Nat} {v : th_V} {q : Nat × th_V}, q ∈ th_in l i v → q = (i, v) ∨ q ∈ l
  | [], _, _, _, h => by
    rcases List.mem_cons.mp h with h | h
    · exact Or.inl h
    · cases h
  | x :: l, i, v, q, h => by
    unfold th_in at h
    split at h
    · exact (List.mem_cons.mp h).imp id id
    · rcases List.mem_cons.mp h with h | h
      · exact Or.inr (by rw [h]; exact List.mem_cons_self)
      · exact (th_in_mem h).imp id (List.mem_cons_of_mem _)
def th_st (lv : List (Nat × th_V)) (i : Nat) (v : th_V) : List (Nat × th_V) := th_in (lv.filter (fun q => !(q.1 == i))) i v
theorem th_st_has {lv lv' : List (Nat × th_V)} {i nL : Nat} {v : th_V} {al : th_A} {ls : Array Slot} (hs : th_st lv i v = lv')
    (h : lv_has ls nL ((i, th_cv al v) :: (lv.map fun q => (q.1, th_cv al q.2)).filter (fun q => !(q.1 == i) && !(q.1 + 1 == i && q.2.category == 2)))) : lv_has ls nL (lv'.map fun q => (q.1, th_cv al q.2)) := by
  subst hs
  refine ⟨h.1, h.2.1, fun q hq => h.2.2 q ?_⟩
  obtain ⟨x, hx, rfl⟩ := List.mem_map.mp hq
  rcases th_in_mem hx with rfl | hx
  · exact List.mem_cons_self
  · obtain ⟨h1, h2⟩ := List.mem_filter.mp hx
    refine List.mem_cons_of_mem _ (List.mem_filter.mpr ⟨List.mem_map.mpr ⟨x, h1, rfl⟩, ?_⟩)
    have hc := th_cv_cat al x.2
    simp only [hc]
    simpa using h2
theorem th_sub_has {lv lv' : List (Nat × th_V)} {nL : Nat} {al : th_A} {ls : Array Slot} (hs : ∀ q ∈ lv', q ∈ lv) (h : lv_has ls nL (lv.map fun q => (q.1, th_cv al q.2))) : lv_has ls nL (lv'.map fun q => (q.1, th_cv al q.2)) := by
  refine ⟨h.1, h.2.1, fun q hq => h.2.2 q ?_⟩
  obtain ⟨x, hx, rfl⟩ := List.mem_map.mp hq
  exact List.mem_map.mpr ⟨x, hs x hx, rfl⟩
def th_al : Nat → List th_V → List (Nat × th_V)
  | _, [] => []
  | i, v :: vs => (i, v) :: th_al (i + 1) vs
theorem th_al_args (al : th_A) : ∀ (i : Nat) (as : List th_V), lv_args i (as.map (th_cv al)) = (th_al i as).map fun q => (q.1, th_cv al q.2)
  | _, [] => rfl
  | i, v :: vs => by
    show (i, th_cv al v) :: lv_args (if (th_cv al v).category = 2 then i + 2 else i + 1) (vs.map (th_cv al)) = _
    rw [th_cv_cat, if_neg (by decide), th_al_args al (i + 1) vs]
    rfl
theorem th_al_len (al : th_A) : ∀ (as : List th_V), (lg_sl (as.map (th_cv al))).length = as.length
  | [] => rfl
  | v :: vs => by
    have h := th_al_len al vs
    unfold lg_sl at h ⊢
    rw [List.map_cons, List.flatMap_cons, th_cv_cat, if_neg (by decide), List.length_append, h]
    simp [Nat.add_comm]
end
section
section BaseRows
variable {l : Launch} {z : th_Z} {cc : ByteArray} {nL pc kc ks : Nat} {own : String} {rm : Room} {ret : Option FieldType} {tb : List ExceptionTableEntry} {lv : List (Nat × th_V)} {st : List th_V} {mu : th_M}
theorem th_iconst (C : th_C l z cc nL own rm ret tb) {n : Int} {v : Int32} (hd : decode cc pc = .ok (.iconst n, 1)) (hv : Int32.ofInt n = v) (k : th_G l z nL (pc + 1) lv (.inl v :: st) mu kc ks) : th_G l z nL pc lv st mu kc ks := by
  obtain ⟨p, e, R, s, m, args, below, meth, c, Q, D, cA, base, al⟩ := z
  obtain ⟨hx, hb, -⟩ := C
  intro H locs ls hw hS hl
  exact lv_iconst hx hb hd hv (k H locs ls hw hS hl)
theorem th_bipush (C : th_C l z cc nL own rm ret tb) {n : Int} {v : Int32} (hd : decode cc pc = .ok (.bipush n, 2)) (hv : (Int8.ofInt n).toInt32 = v) (k : th_G l z nL (pc + 2) lv (.inl v :: st) mu kc ks) : th_G l z nL pc lv st mu kc ks := by
  obtain ⟨p, e, R, s, m, args, below, meth, c, Q, D, cA, base, al⟩ := z
  obtain ⟨hx, hb, -⟩ := C
  intro H locs ls hw hS hl
  exact lv_bipush hx hb hd hv (k H locs ls hw hS hl)
theorem th_sipush (C : th_C l z cc nL own rm ret tb) {n : Int} {v : Int32} (hd : decode cc pc = .ok (.sipush n, 3)) (hv : (Int16.ofInt n).toInt32 = v) (k : th_G l z nL (pc + 3) lv (.inl v :: st) mu kc ks) : th_G l z nL pc lv st mu kc ks := by
  obtain ⟨p, e, R, s, m, args, below, meth, c, Q, D, cA, base, al⟩ := z
  obtain ⟨hx, hb, -⟩ := C
  intro H locs ls hw hS hl
  exact lv_sipush hx hb hd hv (k H locs ls hw hS hl)
theorem th_ldc (C : th_C l z cc nL own rm ret tb) {v : Int32} {ix : Nat} (hd : decode cc pc = .ok (.ldc ix, 2)) (hw1 : Jvm.Cond.constant own ix v ∈ th_B) (k : th_G l z nL (pc + 2) lv (.inl v :: st) mu kc ks) : th_G l z nL pc lv st mu kc ks := by
  obtain ⟨p, e, R, s, m, args, below, meth, c, Q, D, cA, base, al⟩ := z
  obtain ⟨hx, hb, hml, hown, hts, -⟩ := C
  intro H locs ls hw hS hl
  exact W.ldc hx hb hown (hts _ hw1) rfl hd (k H locs ls hw hS hl)
theorem th_null (C : th_C l z cc nL own rm ret tb) (hd : decode cc pc = .ok (.aconst_null, 1)) (k : th_G l z nL (pc + 1) lv (.inr none :: st) mu kc ks) : th_G l z nL pc lv st mu kc ks := by
  obtain ⟨p, e, R, s, m, args, below, meth, c, Q, D, cA, base, al⟩ := z
  obtain ⟨hx, hb, -⟩ := C
  intro H locs ls hw hS hl
  exact lv_null hx hb hd (k H locs ls hw hS hl)
theorem th_iadd (C : th_C l z cc nL own rm ret tb) {x y : Int32} (hd : decode cc pc = .ok (.iadd, 1)) (k : th_G l z nL (pc + 1) lv (.inl (x + y) :: st) mu kc ks) : th_G l z nL pc lv (.inl y :: .inl x :: st) mu kc ks := by
  obtain ⟨p, e, R, s, m, args, below, meth, c, Q, D, cA, base, al⟩ := z
  obtain ⟨hx, hb, -⟩ := C
  intro H locs ls hw hS hl
  exact lv_iadd hx hb hd (k H locs ls hw hS hl)
theorem th_isub (C : th_C l z cc nL own rm ret tb) {x y : Int32} (hd : decode cc pc = .ok (.isub, 1)) (k : th_G l z nL (pc + 1) lv (.inl (x - y) :: st) mu kc ks) : th_G l z nL pc lv (.inl y :: .inl x :: st) mu kc ks := by
  obtain ⟨p, e, R, s, m, args, below, meth, c, Q, D, cA, base, al⟩ := z
  obtain ⟨hx, hb, -⟩ := C
  intro H locs ls hw hS hl
  exact lv_isub hx hb hd (k H locs ls hw hS hl)
theorem th_imul (C : th_C l z cc nL own rm ret tb) {x y : Int32} (hd : decode cc pc = .ok (.imul, 1)) (k : th_G l z nL (pc + 1) lv (.inl (x * y) :: st) mu kc ks) : th_G l z nL pc lv (.inl y :: .inl x :: st) mu kc ks := by
  obtain ⟨p, e, R, s, m, args, below, meth, c, Q, D, cA, base, al⟩ := z
  obtain ⟨hx, hb, -⟩ := C
  intro H locs ls hw hS hl
  exact lv_imul hx hb hd (k H locs ls hw hS hl)
theorem th_iand (C : th_C l z cc nL own rm ret tb) {x y : Int32} (hd : decode cc pc = .ok (.iand, 1)) (k : th_G l z nL (pc + 1) lv (.inl (x &&& y) :: st) mu kc ks) : th_G l z nL pc lv (.inl y :: .inl x :: st) mu kc ks := by
  obtain ⟨p, e, R, s, m, args, below, meth, c, Q, D, cA, base, al⟩ := z
  obtain ⟨hx, hb, -⟩ := C
  intro H locs ls hw hS hl
  exact lv_iand hx hb hd (k H locs ls hw hS hl)
theorem th_ior (C : th_C l z cc nL own rm ret tb) {x y : Int32} (hd : decode cc pc = .ok (.ior, 1)) (k : th_G l z nL (pc + 1) lv (.inl (x ||| y) :: st) mu kc ks) : th_G l z nL pc lv (.inl y :: .inl x :: st) mu kc ks := by
  obtain ⟨p, e, R, s, m, args, below, meth, c, Q, D, cA, base, al⟩ := z
  obtain ⟨hx, hb, -⟩ := C
  intro H locs ls hw hS hl
  exact lv_ior hx hb hd (k H locs ls hw hS hl)
theorem th_ixor (C : th_C l z cc nL own rm ret tb) {x y : Int32} (hd : decode cc pc = .ok (.ixor, 1)) (k : th_G l z nL (pc + 1) lv (.inl (x ^^^ y) :: st) mu kc ks) : th_G l z nL pc lv (.inl y :: .inl x :: st) mu kc ks := by
  obtain ⟨p, e, R, s, m, args, below, meth, c, Q, D, cA, base, al⟩ := z
  obtain ⟨hx, hb, -⟩ := C
  intro H locs ls hw hS hl
  exact lv_ixor hx hb hd (k H locs ls hw hS hl)
theorem th_irem (C : th_C l z cc nL own rm ret tb) {x y : Int32} (hd : decode cc pc = .ok (.irem, 1)) (hne : ¬ y = 0) (k : th_G l z nL (pc + 1) lv (.inl (x - x / y * y) :: st) mu kc ks) : th_G l z nL pc lv (.inl y :: .inl x :: st) mu kc ks := by
  obtain ⟨p, e, R, s, m, args, below, meth, c, Q, D, cA, base, al⟩ := z
  obtain ⟨hx, hb, -⟩ := C
  intro H locs ls hw hS hl
  exact lv_irem hx hb hd hne (k H locs ls hw hS hl)
theorem th_idiv (C : th_C l z cc nL own rm ret tb) {x y : Int32} (hd : decode cc pc = .ok (.idiv, 1)) (hne : ¬ y = 0) (k : th_G l z nL (pc + 1) lv (.inl (x / y) :: st) mu kc ks) : th_G l z nL pc lv (.inl y :: .inl x :: st) mu kc ks := by
  obtain ⟨p, e, R, s, m, args, below, meth, c, Q, D, cA, base, al⟩ := z
  obtain ⟨hx, hb, -⟩ := C
  intro H locs ls hw hS hl
  exact lv_idiv hx hb hd hne (k H locs ls hw hS hl)
theorem th_ineg (C : th_C l z cc nL own rm ret tb) {x : Int32} (hd : decode cc pc = .ok (.ineg, 1)) (k : th_G l z nL (pc + 1) lv (.inl (-x) :: st) mu kc ks) : th_G l z nL pc lv (.inl x :: st) mu kc ks := by
  obtain ⟨p, e, R, s, m, args, below, meth, c, Q, D, cA, base, al⟩ := z
  obtain ⟨hx, hb, -⟩ := C
  intro H locs ls hw hS hl
  exact lv_ineg hx hb hd (k H locs ls hw hS hl)
theorem th_dup (C : th_C l z cc nL own rm ret tb) {v : th_V} (hd : decode cc pc = .ok (.dup, 1)) (k : th_G l z nL (pc + 1) lv (v :: v :: st) mu kc ks) : th_G l z nL pc lv (v :: st) mu kc ks := by
  obtain ⟨p, e, R, s, m, args, below, meth, c, Q, D, cA, base, al⟩ := z
  obtain ⟨hx, hb, -⟩ := C
  intro H locs ls hw hS hl
  exact lv_dup hx hb hd (th_cv_cat al v) (k H locs ls hw hS hl)
theorem th_pop (C : th_C l z cc nL own rm ret tb) {v : th_V} (hd : decode cc pc = .ok (.pop, 1)) (k : th_G l z nL (pc + 1) lv st mu kc ks) : th_G l z nL pc lv (v :: st) mu kc ks := by
  obtain ⟨p, e, R, s, m, args, below, meth, c, Q, D, cA, base, al⟩ := z
  obtain ⟨hx, hb, -⟩ := C
  intro H locs ls hw hS hl
  exact lv_pop hx hb hd (th_cv_cat al v) (k H locs ls hw hS hl)
theorem th_dup_x1 (C : th_C l z cc nL own rm ret tb) {v w : th_V} (hd : decode cc pc = .ok (.dup_x1, 1)) (k : th_G l z nL (pc + 1) lv (v :: w :: v :: st) mu kc ks) : th_G l z nL pc lv (v :: w :: st) mu kc ks := by
  obtain ⟨p, e, R, s, m, args, below, meth, c, Q, D, cA, base, al⟩ := z
  obtain ⟨hx, hb, -⟩ := C
  intro H locs ls hw hS hl
  exact lv_dup_x1 hx hb hd (th_cv_cat al v) (th_cv_cat al w) (k H locs ls hw hS hl)
theorem th_dup_x2 (C : th_C l z cc nL own rm ret tb) {v w u : th_V} (hd : decode cc pc = .ok (.dup_x2, 1)) (k : th_G l z nL (pc + 1) lv (v :: w :: u :: v :: st) mu kc ks) : th_G l z nL pc lv (v :: w :: u :: st) mu kc ks := by
  obtain ⟨p, e, R, s, m, args, below, meth, c, Q, D, cA, base, al⟩ := z
  obtain ⟨hx, hb, -⟩ := C
  intro H locs ls hw hS hl
  exact lv_dup_x2 hx hb hd (th_cv_cat al v) (th_cv_cat al w) (th_cv_cat al u) (k H locs ls hw hS hl)
theorem th_dup2 (C : th_C l z cc nL own rm ret tb) {v w : th_V} (hd : decode cc pc = .ok (.dup2, 1)) (k : th_G l z nL (pc + 1) lv (v :: w :: v :: w :: st) mu kc ks) : th_G l z nL pc lv (v :: w :: st) mu kc ks := by
  obtain ⟨p, e, R, s, m, args, below, meth, c, Q, D, cA, base, al⟩ := z
  obtain ⟨hx, hb, -⟩ := C
  intro H locs ls hw hS hl
  exact lv_dup2_11 hx hb hd (th_cv_cat al v) (th_cv_cat al w) (k H locs ls hw hS hl)
theorem th_iload_n (C : th_C l z cc nL own rm ret tb) {j : Fin 4} {i : Nat} {x : Int32} (hd : decode cc pc = .ok (.iload_n j, 1)) (hi : (j : Nat) = i) (h : th_lk lv i = some (.inl x)) (k : th_G l z nL (pc + 1) lv (.inl x :: st) mu kc ks) : th_G l z nL pc lv st mu kc ks := by
  obtain ⟨p, e, R, s, m, args, below, meth, c, Q, D, cA, base, al⟩ := z
  obtain ⟨hx, hb, -⟩ := C
  intro H locs ls hw hS hl
  exact lv_iload_n hx hb hd hi (th_lk_at h hl) (k H locs ls hw hS hl)
theorem th_iload (C : th_C l z cc nL own rm ret tb) {i : Nat} {x : Int32} (hd : decode cc pc = .ok (.iload i, 2)) (h : th_lk lv i = some (.inl x)) (k : th_G l z nL (pc + 2) lv (.inl x :: st) mu kc ks) : th_G l z nL pc lv st mu kc ks := by
  obtain ⟨p, e, R, s, m, args, below, meth, c, Q, D, cA, base, al⟩ := z
  obtain ⟨hx, hb, -⟩ := C
  intro H locs ls hw hS hl
  exact lv_iload hx hb hd (th_lk_at h hl) (k H locs ls hw hS hl)
theorem th_aload_n (C : th_C l z cc nL own rm ret tb) {j : Fin 4} {i : Nat} {x : Nat × Nat} (hd : decode cc pc = .ok (.aload_n j, 1)) (hi : (j : Nat) = i) (h : th_lk lv i = some (.inr (some x))) (k : th_G l z nL (pc + 1) lv (.inr (some x) :: st) mu kc ks) : th_G l z nL pc lv st mu kc ks := by
  obtain ⟨p, e, R, s, m, args, below, meth, c, Q, D, cA, base, al⟩ := z
  obtain ⟨hx, hb, -⟩ := C
  intro H locs ls hw hS hl
  exact lv_aload_n hx hb hd hi (th_lk_at h hl) (k H locs ls hw hS hl)
theorem th_aload (C : th_C l z cc nL own rm ret tb) {i : Nat} {x : Nat × Nat} (hd : decode cc pc = .ok (.aload i, 2)) (h : th_lk lv i = some (.inr (some x))) (k : th_G l z nL (pc + 2) lv (.inr (some x) :: st) mu kc ks) : th_G l z nL pc lv st mu kc ks := by
  obtain ⟨p, e, R, s, m, args, below, meth, c, Q, D, cA, base, al⟩ := z
  obtain ⟨hx, hb, -⟩ := C
  intro H locs ls hw hS hl
  exact lv_aload hx hb hd (th_lk_at h hl) (k H locs ls hw hS hl)
theorem th_istore_n (C : th_C l z cc nL own rm ret tb) {j : Fin 4} {i : Nat} {x : Int32} {lv' : List (Nat × th_V)} (hd : decode cc pc = .ok (.istore_n j, 1)) (hi : (j : Nat) = i) (hn : i < nL) (h : th_st lv i (.inl x) = lv') (k : th_G l z nL (pc + 1) lv' st mu kc ks) : th_G l z nL pc lv (.inl x :: st) mu kc ks := by
  obtain ⟨p, e, R, s, m, args, below, meth, c, Q, D, cA, base, al⟩ := z
  obtain ⟨hx, hb, -⟩ := C
  intro H locs ls hw hS hl
  exact lv_istore_n hx hb hd hi hl hn rfl (fun ls' hl' => k H locs ls' hw hS (th_st_has h hl'))
theorem th_istore (C : th_C l z cc nL own rm ret tb) {i : Nat} {x : Int32} {lv' : List (Nat × th_V)} (hd : decode cc pc = .ok (.istore i, 2)) (hn : i < nL) (h : th_st lv i (.inl x) = lv') (k : th_G l z nL (pc + 2) lv' st mu kc ks) : th_G l z nL pc lv (.inl x :: st) mu kc ks := by
  obtain ⟨p, e, R, s, m, args, below, meth, c, Q, D, cA, base, al⟩ := z
  obtain ⟨hx, hb, -⟩ := C
  intro H locs ls hw hS hl
  exact lv_istore hx hb hd hl hn rfl (fun ls' hl' => k H locs ls' hw hS (th_st_has h hl'))
theorem th_astore_n (C : th_C l z cc nL own rm ret tb) {j : Fin 4} {i : Nat} {x : Nat × Nat} {lv' : List (Nat × th_V)} (hd : decode cc pc = .ok (.astore_n j, 1)) (hi : (j : Nat) = i) (hn : i < nL) (h : th_st lv i (.inr (some x)) = lv') (k : th_G l z nL (pc + 1) lv' st mu kc ks) : th_G l z nL pc lv (.inr (some x) :: st) mu kc ks := by
  obtain ⟨p, e, R, s, m, args, below, meth, c, Q, D, cA, base, al⟩ := z
  obtain ⟨hx, hb, -⟩ := C
  intro H locs ls hw hS hl
  exact lv_astore_n hx hb hd hi hl hn rfl (fun ls' hl' => k H locs ls' hw hS (th_st_has h hl'))
theorem th_astore (C : th_C l z cc nL own rm ret tb) {i : Nat} {x : Nat × Nat} {lv' : List (Nat × th_V)} (hd : decode cc pc = .ok (.astore i, 2)) (hn : i < nL) (h : th_st lv i (.inr (some x)) = lv') (k : th_G l z nL (pc + 2) lv' st mu kc ks) : th_G l z nL pc lv (.inr (some x) :: st) mu kc ks := by
  obtain ⟨p, e, R, s, m, args, below, meth, c, Q, D, cA, base, al⟩ := z
  obtain ⟨hx, hb, -⟩ := C
  intro H locs ls hw hS hl
  exact lv_astore hx hb hd hl hn rfl (fun ls' hl' => k H locs ls' hw hS (th_st_has h hl'))
theorem th_iinc (C : th_C l z cc nL own rm ret tb) {i : Nat} {n : Int} {x v : Int32} {lv' : List (Nat × th_V)} (hd : decode cc pc = .ok (.iinc i n, 3)) (hx0 : th_lk lv i = some (.inl x)) (hv : x + Int32.ofInt n = v) (hn : i < nL) (h : th_st lv i (.inl v) = lv') (k : th_G l z nL (pc + 3) lv' st mu kc ks) : th_G l z nL pc lv st mu kc ks := by
  obtain ⟨p, e, R, s, m, args, below, meth, c, Q, D, cA, base, al⟩ := z
  obtain ⟨hx, hb, -⟩ := C
  intro H locs ls hw hS hl
  obtain ⟨j, hj⟩ := List.getElem?_of_mem (List.mem_map.mpr ⟨(i, (.inl x : th_V)), th_lk_mem hx0, rfl⟩ : (i, th_cv al (.inl x)) ∈ lv.map fun q => (q.1, th_cv al q.2))
  exact lv_iinc hx hb hd hl (k := j) hj hv hn rfl (fun ls' hl' => k H locs ls' hw hS (th_st_has (v := .inl v) h hl'))
theorem th_if_eq (C : th_C l z cc nL own rm ret tb) {x : Int32} {off : Int} {tgt : Nat} (hd : decode cc pc = .ok (.ifCond .eq off, 3)) (ht : (pc : Int) + off = (tgt : Int)) (kt : x = 0 → th_G l z nL tgt lv st mu kc ks) (kf : ¬ x = 0 → th_G l z nL (pc + 3) lv st mu kc ks) : th_G l z nL pc lv (.inl x :: st) mu kc ks := by
  obtain ⟨p, e, R, s, m, args, below, meth, c, Q, D, cA, base, al⟩ := z
  obtain ⟨hx, hb, -⟩ := C
  intro H locs ls hw hS hl
  exact lv_if_eq hx hb hd ht (fun h => kt h H locs ls hw hS hl) (fun h => kf h H locs ls hw hS hl)
theorem th_icmp_eq (C : th_C l z cc nL own rm ret tb) {x y : Int32} {off : Int} {tgt : Nat} (hd : decode cc pc = .ok (.if_icmp .eq off, 3)) (ht : (pc : Int) + off = (tgt : Int)) (kt : x = y → th_G l z nL tgt lv st mu kc ks) (kf : ¬ x = y → th_G l z nL (pc + 3) lv st mu kc ks) : th_G l z nL pc lv (.inl y :: .inl x :: st) mu kc ks := by
  obtain ⟨p, e, R, s, m, args, below, meth, c, Q, D, cA, base, al⟩ := z
  obtain ⟨hx, hb, -⟩ := C
  intro H locs ls hw hS hl
  exact lv_icmp_eq hx hb hd ht (fun h => kt h H locs ls hw hS hl) (fun h => kf h H locs ls hw hS hl)
theorem th_if_ne (C : th_C l z cc nL own rm ret tb) {x : Int32} {off : Int} {tgt : Nat} (hd : decode cc pc = .ok (.ifCond .ne off, 3)) (ht : (pc : Int) + off = (tgt : Int)) (kt : ¬ x = 0 → th_G l z nL tgt lv st mu kc ks) (kf : x = 0 → th_G l z nL (pc + 3) lv st mu kc ks) : th_G l z nL pc lv (.inl x :: st) mu kc ks := by
  obtain ⟨p, e, R, s, m, args, below, meth, c, Q, D, cA, base, al⟩ := z
  obtain ⟨hx, hb, -⟩ := C
  intro H locs ls hw hS hl
  exact lv_if_ne hx hb hd ht (fun h => kt h H locs ls hw hS hl) (fun h => kf h H locs ls hw hS hl)
theorem th_icmp_ne (C : th_C l z cc nL own rm ret tb) {x y : Int32} {off : Int} {tgt : Nat} (hd : decode cc pc = .ok (.if_icmp .ne off, 3)) (ht : (pc : Int) + off = (tgt : Int)) (kt : ¬ x = y → th_G l z nL tgt lv st mu kc ks) (kf : x = y → th_G l z nL (pc + 3) lv st mu kc ks) : th_G l z nL pc lv (.inl y :: .inl x :: st) mu kc ks := by
  obtain ⟨p, e, R, s, m, args, below, meth, c, Q, D, cA, base, al⟩ := z
  obtain ⟨hx, hb, -⟩ := C
  intro H locs ls hw hS hl
  exact lv_icmp_ne hx hb hd ht (fun h => kt h H locs ls hw hS hl) (fun h => kf h H locs ls hw hS hl)
theorem th_if_lt (C : th_C l z cc nL own rm ret tb) {x : Int32} {off : Int} {tgt : Nat} (hd : decode cc pc = .ok (.ifCond .lt off, 3)) (ht : (pc : Int) + off = (tgt : Int)) (kt : x < 0 → th_G l z nL tgt lv st mu kc ks) (kf : ¬ x < 0 → th_G l z nL (pc + 3) lv st mu kc ks) : th_G l z nL pc lv (.inl x :: st) mu kc ks := by
  obtain ⟨p, e, R, s, m, args, below, meth, c, Q, D, cA, base, al⟩ := z
  obtain ⟨hx, hb, -⟩ := C
  intro H locs ls hw hS hl
  exact lv_if_lt hx hb hd ht (fun h => kt h H locs ls hw hS hl) (fun h => kf h H locs ls hw hS hl)
theorem th_icmp_lt (C : th_C l z cc nL own rm ret tb) {x y : Int32} {off : Int} {tgt : Nat} (hd : decode cc pc = .ok (.if_icmp .lt off, 3)) (ht : (pc : Int) + off = (tgt : Int)) (kt : x < y → th_G l z nL tgt lv st mu kc ks) (kf : ¬ x < y → th_G l z nL (pc + 3) lv st mu kc ks) : th_G l z nL pc lv (.inl y :: .inl x :: st) mu kc ks := by
  obtain ⟨p, e, R, s, m, args, below, meth, c, Q, D, cA, base, al⟩ := z
  obtain ⟨hx, hb, -⟩ := C
  intro H locs ls hw hS hl
  exact lv_icmp_lt hx hb hd ht (fun h => kt h H locs ls hw hS hl) (fun h => kf h H locs ls hw hS hl)
theorem th_if_ge (C : th_C l z cc nL own rm ret tb) {x : Int32} {off : Int} {tgt : Nat} (hd : decode cc pc = .ok (.ifCond .ge off, 3)) (ht : (pc : Int) + off = (tgt : Int)) (kt : 0 ≤ x → th_G l z nL tgt lv st mu kc ks) (kf : ¬ 0 ≤ x → th_G l z nL (pc + 3) lv st mu kc ks) : th_G l z nL pc lv (.inl x :: st) mu kc ks := by
  obtain ⟨p, e, R, s, m, args, below, meth, c, Q, D, cA, base, al⟩ := z
  obtain ⟨hx, hb, -⟩ := C
  intro H locs ls hw hS hl
  exact lv_if_ge hx hb hd ht (fun h => kt h H locs ls hw hS hl) (fun h => kf h H locs ls hw hS hl)
theorem th_icmp_ge (C : th_C l z cc nL own rm ret tb) {x y : Int32} {off : Int} {tgt : Nat} (hd : decode cc pc = .ok (.if_icmp .ge off, 3)) (ht : (pc : Int) + off = (tgt : Int)) (kt : y ≤ x → th_G l z nL tgt lv st mu kc ks) (kf : ¬ y ≤ x → th_G l z nL (pc + 3) lv st mu kc ks) : th_G l z nL pc lv (.inl y :: .inl x :: st) mu kc ks := by
  obtain ⟨p, e, R, s, m, args, below, meth, c, Q, D, cA, base, al⟩ := z
  obtain ⟨hx, hb, -⟩ := C
  intro H locs ls hw hS hl
  exact lv_icmp_ge hx hb hd ht (fun h => kt h H locs ls hw hS hl) (fun h => kf h H locs ls hw hS hl)
theorem th_if_gt (C : th_C l z cc nL own rm ret tb) {x : Int32} {off : Int} {tgt : Nat} (hd : decode cc pc = .ok (.ifCond .gt off, 3)) (ht : (pc : Int) + off = (tgt : Int)) (kt : 0 < x → th_G l z nL tgt lv st mu kc ks) (kf : ¬ 0 < x → th_G l z nL (pc + 3) lv st mu kc ks) : th_G l z nL pc lv (.inl x :: st) mu kc ks := by
  obtain ⟨p, e, R, s, m, args, below, meth, c, Q, D, cA, base, al⟩ := z
  obtain ⟨hx, hb, -⟩ := C
  intro H locs ls hw hS hl
  exact lv_if_gt hx hb hd ht (fun h => kt h H locs ls hw hS hl) (fun h => kf h H locs ls hw hS hl)
theorem th_icmp_gt (C : th_C l z cc nL own rm ret tb) {x y : Int32} {off : Int} {tgt : Nat} (hd : decode cc pc = .ok (.if_icmp .gt off, 3)) (ht : (pc : Int) + off = (tgt : Int)) (kt : y < x → th_G l z nL tgt lv st mu kc ks) (kf : ¬ y < x → th_G l z nL (pc + 3) lv st mu kc ks) : th_G l z nL pc lv (.inl y :: .inl x :: st) mu kc ks := by
  obtain ⟨p, e, R, s, m, args, below, meth, c, Q, D, cA, base, al⟩ := z
  obtain ⟨hx, hb, -⟩ := C
  intro H locs ls hw hS hl
  exact lv_icmp_gt hx hb hd ht (fun h => kt h H locs ls hw hS hl) (fun h => kf h H locs ls hw hS hl)
theorem th_if_le (C : th_C l z cc nL own rm ret tb) {x : Int32} {off : Int} {tgt : Nat} (hd : decode cc pc = .ok (.ifCond .le off, 3)) (ht : (pc : Int) + off = (tgt : Int)) (kt : x ≤ 0 → th_G l z nL tgt lv st mu kc ks) (kf : ¬ x ≤ 0 → th_G l z nL (pc + 3) lv st mu kc ks) : th_G l z nL pc lv (.inl x :: st) mu kc ks := by
  obtain ⟨p, e, R, s, m, args, below, meth, c, Q, D, cA, base, al⟩ := z
  obtain ⟨hx, hb, -⟩ := C
  intro H locs ls hw hS hl
  exact lv_if_le hx hb hd ht (fun h => kt h H locs ls hw hS hl) (fun h => kf h H locs ls hw hS hl)
theorem th_icmp_le (C : th_C l z cc nL own rm ret tb) {x y : Int32} {off : Int} {tgt : Nat} (hd : decode cc pc = .ok (.if_icmp .le off, 3)) (ht : (pc : Int) + off = (tgt : Int)) (kt : x ≤ y → th_G l z nL tgt lv st mu kc ks) (kf : ¬ x ≤ y → th_G l z nL (pc + 3) lv st mu kc ks) : th_G l z nL pc lv (.inl y :: .inl x :: st) mu kc ks := by
  obtain ⟨p, e, R, s, m, args, below, meth, c, Q, D, cA, base, al⟩ := z
  obtain ⟨hx, hb, -⟩ := C
  intro H locs ls hw hS hl
  exact lv_icmp_le hx hb hd ht (fun h => kt h H locs ls hw hS hl) (fun h => kf h H locs ls hw hS hl)
theorem th_goto (C : th_C l z cc nL own rm ret tb) {off : Int} {tgt : Nat} (hd : decode cc pc = .ok (.goto off, 3)) (ht : (pc : Int) + off = (tgt : Int)) (k : th_G l z nL tgt lv st mu kc ks) : th_G l z nL pc lv st mu kc ks := by
  obtain ⟨p, e, R, s, m, args, below, meth, c, Q, D, cA, base, al⟩ := z
  obtain ⟨hx, hb, -⟩ := C
  intro H locs ls hw hS hl
  exact lv_goto hx hb hd ht (k H locs ls hw hS hl)
theorem th_tableIn (C : th_C l z cc nL own rm ret tb) {dflt lo hi : Int} {offs : Array Int} {len : Nat} {x : Int32} {off : Int} {tgt : Nat} (hd : decode cc pc = .ok (.tableswitch dflt lo hi offs, len)) (h1 : ¬ x.toInt < lo) (h2 : ¬ hi < x.toInt) (ho : offs[(x.toInt - lo).toNat]? = some off) (ht : (pc : Int) + off = (tgt : Int)) (k : th_G l z nL tgt lv st mu kc ks) : th_G l z nL pc lv (.inl x :: st) mu kc ks := by
  obtain ⟨p, e, R, s, m, args, below, meth, c, Q, D, cA, base, al⟩ := z
  obtain ⟨hx, hb, -⟩ := C
  intro H locs ls hw hS hl
  exact lv_tableIn hx hb hd h1 h2 ho ht (k H locs ls hw hS hl)
theorem th_tableOut (C : th_C l z cc nL own rm ret tb) {dflt lo hi : Int} {offs : Array Int} {len : Nat} {x : Int32} {tgt : Nat} (hd : decode cc pc = .ok (.tableswitch dflt lo hi offs, len)) (h1 : x.toInt < lo ∨ hi < x.toInt) (ht : (pc : Int) + dflt = (tgt : Int)) (k : th_G l z nL tgt lv st mu kc ks) : th_G l z nL pc lv (.inl x :: st) mu kc ks := by
  obtain ⟨p, e, R, s, m, args, below, meth, c, Q, D, cA, base, al⟩ := z
  obtain ⟨hx, hb, -⟩ := C
  intro H locs ls hw hS hl
  exact lv_tableOut hx hb hd h1 ht (k H locs ls hw hS hl)
theorem th_sub (C : th_C l z cc nL own rm ret tb) {lv' : List (Nat × th_V)} (h : ∀ q ∈ lv', q ∈ lv) (k : th_G l z nL pc lv' st mu kc ks) : th_G l z nL pc lv st mu kc ks := by
  obtain ⟨p, e, R, s, m, args, below, meth, c, Q, D, cA, base, al⟩ := z
  obtain - := C
  intro H locs ls hw hS hl
  exact k H locs ls hw hS (th_sub_has h hl)
theorem th_widen (C : th_C l z cc nL own rm ret tb) {kc' ks' : Nat} (h1 : kc ≤ kc') (h2 : ks ≤ ks') (k : th_G l z nL pc lv st mu kc' ks') : th_G l z nL pc lv st mu kc ks := by
  obtain ⟨p, e, R, s, m, args, below, meth, c, Q, D, cA, base, al⟩ := z
  obtain - := C
  intro H locs ls hw hS hl
  exact W.widen h1 h2 (k H locs ls hw hS hl)

def th_ix (x : Int32) (n L : Nat) : Prop := vp_in x L ∧ x.toNatClampNeg = n
theorem th_ix_nI {n L : Nat} (h : n < L) (hL : L < 2 ^ 31) : th_ix (nI n) n L := ⟨vp_in_nI h hL, nI_clamp (Nat.lt_trans h hL)⟩
theorem th_ix.lt {x : Int32} {n L : Nat} (h : th_ix x n L) : n < L := by
  obtain ⟨h1, rfl⟩ := h
  exact Nat.not_le.mp fun q => h1 (Or.inr q)
theorem th_getI (C : th_C l z cc nL own rm ret tb) {t i ci ix kf N : Nat} {Cn : String} {T : u_T} (hd : decode cc pc = .ok (.getfield ix, 3)) (hi : i < mu.1 t) (hk : th_kd t = (0, ci)) (hc : th_Cl[ci]? = some (Cn, T, N)) (hin : ∀ w ∈ u_ws Cn T N, w ∈ th_B) (hkN : kf < N) (hr : th_fr t kf = false) (hlk : Cond.fieldLink own ix (T kf).1 (T kf).2.1 (T kf).2.2.1 ∈ th_B)
    (k : th_G l z nL (pc + 3) lv (.inl (mu.2.1 t i kf) :: st) mu kc ks) : th_G l z nL pc lv (.inr (some (t, i)) :: st) mu kc ks := by
  obtain ⟨p, e, R, s, m, args, below, meth, c, Q, D, cA, base, al⟩ := z
  obtain ⟨hx, hb, hml, hown, hts, hlo, hK, -⟩ := C
  intro H locs ls hw hS hl
  obtain ⟨cell, q1, q2, q3, q4⟩ := th_ck_obj (hw.1 t i hi) hk hc
  obtain ⟨hSl, hfc, kC, hkC, hkind⟩ := hK.1 ci _ hc
  obtain ⟨cf, kff, fi, f, hfi, hsl⟩ := hSl kf hkN
  refine W.getf hx hb hown (hts _ hlk) hfi (u_facts hfc hkC (u_lays hts hin hkN) hfi).1 q1 (by rw [q3]; exact fun h => by cases h) (v := .int (mu.2.1 t i kf)) ?_ rfl rfl hd (k H locs ls hw hS hl)
  rw [hsl, q4 kf hkN]
  simp [th_fv, hr]
theorem th_getR (C : th_C l z cc nL own rm ret tb) {t i ci ix kf N : Nat} {Cn : String} {T : u_T} {v : Option (Nat × Nat)} (hd : decode cc pc = .ok (.getfield ix, 3)) (hi : i < mu.1 t) (hk : th_kd t = (0, ci)) (hc : th_Cl[ci]? = some (Cn, T, N)) (hin : ∀ w ∈ u_ws Cn T N, w ∈ th_B) (hkN : kf < N) (hr : th_fr t kf = true) (hlk : Cond.fieldLink own ix (T kf).1 (T kf).2.1 (T kf).2.2.1 ∈ th_B) (hv : mu.2.2.1 t i kf = v)
    (k : th_G l z nL (pc + 3) lv (.inr v :: st) mu kc ks) : th_G l z nL pc lv (.inr (some (t, i)) :: st) mu kc ks := by
  subst hv
  obtain ⟨p, e, R, s, m, args, below, meth, c, Q, D, cA, base, al⟩ := z
  obtain ⟨hx, hb, hml, hown, hts, hlo, hK, -⟩ := C
  intro H locs ls hw hS hl
  obtain ⟨cell, q1, q2, q3, q4⟩ := th_ck_obj (hw.1 t i hi) hk hc
  obtain ⟨hSl, hfc, kC, hkC, hkind⟩ := hK.1 ci _ hc
  obtain ⟨cf, kff, fi, f, hfi, hsl⟩ := hSl kf hkN
  refine W.getf hx hb hown (hts _ hlk) hfi (u_facts hfc hkC (u_lays hts hin hkN) hfi).1 q1 (by rw [q3]; exact fun h => by cases h) (v := th_cv al (.inr (mu.2.2.1 t i kf))) ?_ rfl rfl hd (k H locs ls hw hS hl)
  rw [hsl, q4 kf hkN]
  simp [th_fv, hr]
theorem th_putI (C : th_C l z cc nL own rm ret tb) {t i ci ix kf N : Nat} {Cn : String} {T : u_T} {v : Int32} (hd : decode cc pc = .ok (.putfield ix, 3)) (hi : i < mu.1 t) (hk : th_kd t = (0, ci)) (hc : th_Cl[ci]? = some (Cn, T, N)) (hin : ∀ w ∈ u_ws Cn T N, w ∈ th_B) (tyf : Nat → FieldType) (hty : ∀ k, k < N → parseFieldDescriptor (T k).2.2.1 = some (tyf k)) (hnm : ∀ a, a < N → ∀ b, b < N → a ≠ b → (T a).2.1 ≠ (T b).2.1) (hkN : kf < N) (hr : th_fr t kf = false) (hlk : Cond.fieldLink own ix (T kf).1 (T kf).2.1 (T kf).2.2.1 ∈ th_B)
    (hfin : (T kf).2.2.2 = false) (hn : narrow (tyf kf) (.int v) = .int v) (hfit : fits (tyf kf) (.int v) = true) (k : th_G l z nL (pc + 3) lv st (mu.1, th_u mu.2.1 t i kf v, mu.2.2) kc ks) : th_G l z nL pc lv (.inl v :: .inr (some (t, i)) :: st) mu kc ks := by
  obtain ⟨p, e, R, s, m, args, below, meth, c, Q, D, cA, base, al⟩ := z
  obtain ⟨hx, hb, hml, hown, hts, hlo, hK, -⟩ := C
  intro H locs ls hw hS hl
  have hap := va_apart (own := own) hts hin tyf hty hnm hK hc
  obtain ⟨cell, q1, q2, q3, q4⟩ := th_ck_obj (hw.1 t i hi) hk hc
  obtain ⟨hSl, hfc, kC, hkC, hkind⟩ := hK.1 ci _ hc
  obtain ⟨cf, kff, fi, f, hfi, hsl⟩ := hSl kf hkN
  have hlay := hts _ (hin _ (u_in_lay hkN))
  unfold u_lay at hlay
  rw [if_neg (by rw [hfin]; decide)] at hlay
  have hst := (u_facts hfc hkC (u_lays hts hin hkN) hfi).1
  have h6 := u_store hfc hkC hkind hlay hfi (hty kf hkN) hn hfit
  refine W.putK hx hb (f := f) ⟨hown, hts _ hlk, ⟨_, _, _, hfi⟩, hst⟩ (by rw [q2]; exact h6) q1 q3 (by rw [hsl]; exact k2_hasslot (q4 kf hkN)) rfl rfl hd fun H' e1 e2 e3 => ?_
  rw [hsl] at e1 ⊢
  refine k H' _ ls ?_ (hS.put e2 e3 (hw.2.2.1 t i hi)) hl
  refine th_W_put hw hi rfl ?_ e3 (fun t' i' h => th_u_ne _ _ _ h) (fun _ _ _ => rfl) rfl e2
  unfold th_ck
  rw [hk]
  refine ⟨_, hc, t_OB.to (V := updV (fun k => th_fv al mu t i k) kf (.int v)) ⟨_, e1, q2, q3, t_set q4 hap hkN (.int v)⟩ (fun j _ => ?_)⟩
  by_cases hj : j = kf
  · subst hj
    simp [updV, th_fv, hr, th_u_self, upd]
  · simp [updV, th_fv, hj, th_u_self, upd]
theorem th_iald (C : th_C l z cc nL own rm ret tb) {t i j n : Nat} {x : Int32} (hd : decode cc pc = .ok (.iaload, 1)) (hi : i < mu.1 t) (hk : th_kd t = (1, j)) (hty : ∀ cA, (th_ty cA)[j]? = some (cA j, .int)) (hin : th_ix x n (mu.2.2.2.1 t i))
    (k : th_G l z nL (pc + 1) lv (.inl (mu.2.1 t i n) :: st) mu kc ks) : th_G l z nL pc lv (.inl x :: .inr (some (t, i)) :: st) mu kc ks := by
  obtain ⟨p, e, R, s, m, args, below, meth, c, Q, D, cA, base, al⟩ := z
  obtain ⟨hx, hb, hml, hown, hts, hlo, hK, -⟩ := C
  intro H locs ls hw hS hl
  have hlt := hin.lt
  obtain ⟨hin, rfl⟩ := hin
  exact W.iald (v := .int (mu.2.1 t i x.toNatClampNeg)) hx hb (th_ck_int (hw.1 t i hi) hk) ((hK.2 j _ (hty cA)).1 _ _) (fun q => by cases q) (by rw [arrV_size]; exact hin) (by rw [arrV_read _ _ hlt]) rfl rfl hd (k H locs ls hw hS hl)
theorem th_iast (C : th_C l z cc nL own rm ret tb) {t i j n : Nat} {x v : Int32} (hd : decode cc pc = .ok (.iastore, 1)) (hi : i < mu.1 t) (hk : th_kd t = (1, j)) (hty : ∀ cA, (th_ty cA)[j]? = some (cA j, .int)) (hin : th_ix x n (mu.2.2.2.1 t i))
    (k : th_G l z nL (pc + 1) lv st (mu.1, th_u mu.2.1 t i n v, mu.2.2) kc ks) : th_G l z nL pc lv (.inl v :: .inl x :: .inr (some (t, i)) :: st) mu kc ks := by
  obtain ⟨p, e, R, s, m, args, below, meth, c, Q, D, cA, base, al⟩ := z
  obtain ⟨hx, hb, hml, hown, hts, hlo, hK, -⟩ := C
  intro H locs ls hw hS hl
  obtain ⟨hin, rfl⟩ := hin
  refine W.iast hx hb (th_ck_int (hw.1 t i hi) hk) ((hK.2 j _ (hty cA)).1 _ _) (fun q => by cases q) (by rw [arrV_size]; exact hin) rfl rfl hd fun H1 e1 e2 e3 => ?_
  refine k H1 _ ls ?_ (hS.put e2 e3 (hw.2.2.1 t i hi)) hl
  refine th_W_put hw hi rfl ?_ e3 (fun t' i' h => th_u_ne _ _ _ h) (fun _ _ _ => rfl) rfl e2
  unfold th_ck
  rw [hk]
  show H1[al t i]? = _
  rw [e1, arrV_store]
  congr 2
  funext q
  show updV _ _ _ q = Value.int (th_u mu.2.1 t i _ v t i q)
  rw [th_u_self]
  by_cases hq : q = x.toNatClampNeg
  · subst hq
    simp [updV, upd]
  · simp [updV, upd, hq]
theorem th_aald (C : th_C l z cc nL own rm ret tb) {t i j n : Nat} {x : Int32} {Cn : String} {v : Option (Nat × Nat)} (hd : decode cc pc = .ok (.aaload, 1)) (hi : i < mu.1 t) (hk : th_kd t = (2, j)) (hty : ∀ cA, (th_ty cA)[j]? = some (cA j, .object Cn)) (hin : th_ix x n (mu.2.2.2.1 t i)) (hv : mu.2.2.1 t i n = v)
    (k : th_G l z nL (pc + 1) lv (.inr v :: st) mu kc ks) : th_G l z nL pc lv (.inl x :: .inr (some (t, i)) :: st) mu kc ks := by
  subst hv
  obtain ⟨p, e, R, s, m, args, below, meth, c, Q, D, cA, base, al⟩ := z
  obtain ⟨hx, hb, hml, hown, hts, hlo, hK, -⟩ := C
  intro H locs ls hw hS hl
  have hlt := hin.lt
  obtain ⟨hin, rfl⟩ := hin
  exact W.aald (v := th_cv al (.inr (mu.2.2.1 t i x.toNatClampNeg))) (ty := .object Cn) hx hb (th_ck_ref (hw.1 t i hi) hk) ((hK.2 j _ (hty cA)).1 _ _) rfl (fun q => by cases q) (by rw [arrV_size]; exact hin) (by rw [arrV_read _ _ hlt]) rfl rfl hd (k H locs ls hw hS hl)
theorem th_alen (C : th_C l z cc nL own rm ret tb) {t i j : Nat} (hd : decode cc pc = .ok (.arraylength, 1)) (hi : i < mu.1 t) (hk : th_kd t = (1, j)) (hty : ∀ cA, (th_ty cA)[j]? = some (cA j, .int))
    (k : th_G l z nL (pc + 1) lv (.inl (nI (mu.2.2.2.1 t i)) :: st) mu kc ks) : th_G l z nL pc lv (.inr (some (t, i)) :: st) mu kc ks := by
  obtain ⟨p, e, R, s, m, args, below, meth, c, Q, D, cA, base, al⟩ := z
  obtain ⟨hx, hb, hml, hown, hts, hlo, hK, -⟩ := C
  intro H locs ls hw hS hl
  exact W.alen hx hb (th_ck_int (hw.1 t i hi) hk) ((hK.2 j _ (hty cA)).1 _ _) (by rw [arrV_size]; rfl) rfl rfl hd (k H locs ls hw hS hl)
theorem th_iret (C : th_C l z cc nL own rm (some .int) tb) {v : Int32} {mc ms : Nat} {Φ : th_P} (hQ : th_Q z Φ mc ms) (hd : decode cc pc = .ok (.ireturn, 1)) (hc : kc ≤ mc) (hs : ks ≤ ms) (h : Φ (.inl (some (.inl v))) mu) : th_G l z nL pc lv [.inl v] mu kc ks := by
  obtain ⟨p, e, R, s, m, args, below, meth, c, Q, D, cA, base, al⟩ := z
  obtain ⟨hx, hb, hml, hown, hts, hlo, hK, hST, hbs, hR, hr, -⟩ := C
  intro H locs ls hw hS hl
  cases hQ
  refine W.widen hc hs (vx_ret ?_)
  exact W.iret hx hb hr (fun t ht hW => ⟨⟨_, _, h, rfl, by rw [ht]; exact hw⟩, hS.F ht⟩) hS.2.2 hd hlo
theorem th_zret (C : th_C l z cc nL own rm (some .boolean) tb) {v : Int32} {mc ms : Nat} {Φ : th_P} (hQ : th_Q z Φ mc ms) (hd : decode cc pc = .ok (.ireturn, 1)) (hn : narrow .boolean (.int v) = .int v) (hc : kc ≤ mc) (hs : ks ≤ ms) (h : Φ (.inl (some (.inl v))) mu) : th_G l z nL pc lv [.inl v] mu kc ks := by
  obtain ⟨p, e, R, s, m, args, below, meth, c, Q, D, cA, base, al⟩ := z
  obtain ⟨hx, hb, hml, hown, hts, hlo, hK, hST, hbs, hR, hr, -⟩ := C
  intro H locs ls hw hS hl
  cases hQ
  refine W.widen hc hs (vx_ret ?_)
  exact W.zret hx hb hr hn (fun t ht hW => ⟨⟨_, _, h, rfl, by rw [ht]; exact hw⟩, hS.F ht⟩) hS.2.2 hd hlo
theorem th_vret (C : th_C l z cc nL own rm none tb) {mc ms : Nat} {Φ : th_P} (hQ : th_Q z Φ mc ms) (hd : decode cc pc = .ok (.return_, 1)) (hc : kc ≤ mc) (hs : ks ≤ ms) (h : Φ (.inl none) mu) : th_G l z nL pc lv [] mu kc ks := by
  obtain ⟨p, e, R, s, m, args, below, meth, c, Q, D, cA, base, al⟩ := z
  obtain ⟨hx, hb, hml, hown, hts, hlo, hK, hST, hbs, hR, hr, -⟩ := C
  intro H locs ls hw hS hl
  cases hQ
  refine W.widen hc hs (vx_ret ?_)
  exact W.vret hx hb hr (fun t ht hW => ⟨⟨_, _, h, rfl, by rw [ht]; exact hw⟩, hS.F ht⟩) hS.2.2 hd hlo
theorem th_outX (C : th_C l z cc nL own rm ret tb) {E : String} {mc ms : Nat} {Φ : th_P} (hQ : th_Q z Φ mc ms) (htb : ∀ x ∈ tb, covers x pc = false) (hc : kc ≤ mc) (hs : ks ≤ ms) (h : Φ (.inr E) mu) : th_X l z nL pc lv E mu kc ks := by
  obtain ⟨p, e, R, s, m, args, below, meth, c, Q, D, cA, base, al⟩ := z
  obtain ⟨hx, hb, hml, hown, hts, hlo, hK, hST, hbs, hR, hr, htt, -⟩ := C
  intro H locs ls rest q ce hw hS hl hce hcv hcl
  cases hQ
  exact vx_out (by rw [htt]; exact htb) hlo hce hcv hcl (fun t ht ha => ⟨⟨_, h, by rw [ht]; exact hw⟩, hS.F ht⟩) hS.2.2 hc hs
theorem th_to {mu' : th_M} {st' : List th_V} (hm : mu' = mu) (hs : st' = st) (k : th_G l z nL pc lv st mu kc ks) : th_G l z nL pc lv st' mu' kc ks := by
  subst hm; subst hs; exact k
theorem th_of {y : MethodName} {mL : Nat} {as : List th_V} {Φ : th_P} (hl : l.stackTraces = false) (hy : plainName y.cls = true) (hn : as.length ≤ mL)
    (body : ∀ z : th_Z, th_C l z cc mL y.cls rm ret [] → th_Q z Φ rm.cells rm.slots → th_N z y.name → th_G l z mL 0 (th_al 0 as) [] mu 0 0) : th_F l y cc mL ret rm as mu Φ := by
  intro D cA base al hal
  refine vx_ofW (cc := cc) (maxL := mL) (ret := ret) hy rfl ?_
  intro p e s m args below meth c s₁ B hml htab hv
  obtain ⟨rfl, hbs, hw, hK, hST⟩ := hv
  have hts := atoms_spec (ws := .code y cc mL ret :: th_B) B.pre
  have hown : s.vm.findClass y.cls = some m.cls := findClass_of_methodNamed B.named
  have hg := body (p, e, (headSpec (.code y cc mL ret :: th_B) rm).room, s, m, (as.map (th_cv al)).toArray, below, meth, c, _, D, cA, base, al)
    ⟨B.exec, B.bytes, hml, hown, fun w h => hts w (List.mem_cons_of_mem _ h), B.notSynchronized, hK, hST, hbs, rfl, B.returns, List.eq_nil_iff_forall_not_mem.mpr (fun x hx => htab x hx), hl, hal⟩ rfl (name_of_methodNamed B.named B.method).1
  rw [lg_entry_eq]
  exact hg s.heap [] _ hw va_S.rf (by rw [← th_al_args]; exact lv_entry (as.map (th_cv al)) (by rw [th_al_len]; exact hn))
def th_okB (own : String) (ix : Nat) (y : MethodName) (cy : ByteArray) (mL : Nat) (rety : Option FieldType) (n : Nat) : Prop :=
  Cond.code y cy mL rety ∈ th_B ∧ Cond.initialized y.cls ∈ th_B ∧ Cond.methodLink own ix y ∈ th_B ∧ y.cls ≠ "java/lang/invoke/MethodHandle" ∧ y.cls ≠ "java/lang/invoke/VarHandle" ∧ (parseMethodDescriptor y.desc).map (fun d => d.parameters.length) = some n
def th_okV (own : String) (ix : Nat) (Cn : String) (y : MethodName) (cy : ByteArray) (mL : Nat) (rety : Option FieldType) (n : Nat) : Prop :=
  th_okB own ix y cy mL rety n ∧ Cond.instanceMethod y ∈ th_B ∧ Cond.selects Cn y y ∈ th_B
def th_okS (own : String) (ix : Nat) (y : MethodName) (cy : ByteArray) (mL : Nat) (rety : Option FieldType) (n : Nat) : Prop :=
  th_okB own ix y cy mL rety n ∧ Cond.static y ∈ th_B
theorem th_callB {R : Room} {s : State} {args : Array Value} {own : String} {ix : Nat} {y : MethodName} {cy : ByteArray} {mL n : Nat} {rety : Option FieldType} {rmy : Room} (hts : ∀ w ∈ th_B, w.before args s = true) (ok : th_okB own ix y cy mL rety n) (hf : rmy.frames + 1 ≤ R.frames) (hlo : 8 + (mL + 11) + rmy.locals ≤ R.locals) :
    CallB R s args own ix y cy mL rety (.code y cy mL rety :: th_B) rmy rmy.cells rmy.slots n := by
  obtain ⟨h1, h2, h3, h4, h5, h6⟩ := ok
  refine ⟨rfl, rfl, hf, hlo, fun w hw a' U hW => ?_, List.mem_cons_self, hts _ h1, hts _ h2, ⟨h4, h5⟩, fun sig h => ?_, hts _ h3⟩
  · have hm : w ∈ th_B := by
      rcases List.mem_cons.mp hw with rfl | h
      · exact h1
      · exact h
    exact word_at hW (good_of_word (List.mem_filter.mp hm).2) (hts w hm)
  · rw [h] at h6
    exact (Option.some.inj h6).symm
theorem th_Pc_blind {D : va_G} {cA : Nat → ClassId} {base : Nat} {al : th_A} {as : List th_V} : FrameBlind (th_Pc D cA base al as mu) := by
  intro a U g mk q
  obtain ⟨q0, q1, q2, q3, q4⟩ := q
  exact ⟨q0, q1, q2, va_K.moved (u := U) (U := U.calling g mk a) (Vm.Alike.refl U.vm) q3, th_S_moved (u := U) (U := U.calling g mk a) (State.WarmedH.refl U) q4⟩
theorem th_Pc_at {D : va_G} {cA : Nat → ClassId} {base : Nat} {al : th_A} {as : List th_V} {s U : State} {H : Heap} {locs : List Loc} (hU : U.heap = H) (hW : s.WarmedH U.vm) (hbs : base ≤ s.heap.size) (hw : th_W D cA base al mu H) (hK : va_K D th_Cl (th_ty cA) s) (hST : th_S base al s s.heap) (hS : va_S (fun q => base ≤ q) s.heap H locs) : th_Pc D cA base al as mu (as.map (th_cv al)).toArray U := by
  subst hU
  exact ⟨rfl, Nat.le_trans hbs hS.1, hw, va_K.moved hW.alike hK, th_S_moved hW (th_S_kept hST hS.2.1)⟩
theorem th_cat_sum (al : th_A) : ∀ st : List th_V, ((st.map (th_cv al)).map fun v => v.category).sum = st.length
  | [] => rfl
  | v :: st => by
    have h := th_cat_sum al st
    simp only [List.map_cons, List.sum_cons, th_cv_cat, List.length_cons, h]
    omega
def th_okR (rmy rm : Room) (mL kc ks : Nat) : Bool := Nat.ble (rmy.frames + 1) rm.frames && Nat.ble (8 + (mL + 11) + rmy.locals) rm.locals && Nat.ble (kc + rmy.cells) rm.cells && Nat.ble (ks + rmy.slots) rm.slots
theorem th_okR_of {rmy rm : Room} {mL kc ks : Nat} (h : th_okR rmy rm mL kc ks = true) : (rmy.frames + 1 ≤ rm.frames ∧ 8 + (mL + 11) + rmy.locals ≤ rm.locals) ∧ kc + rmy.cells ≤ rm.cells ∧ ks + rmy.slots ≤ rm.slots := by
  simp only [th_okR, Bool.and_eq_true, Nat.ble_eq] at h
  exact ⟨⟨h.1.1.1, h.1.1.2⟩, h.1.2, h.2⟩
theorem th_core {p : Program} {e : Env} {R : Room} {s : State} {m : MethodId} {args : Array Value} {below : List Frame} {meth : Method} {c : Code} {Q : State → Prop} {D : va_G} {cA : Nat → ClassId} {base : Nat} {al : th_A} {H : Heap} {locs : List Loc} {ls : Array Slot} {mc ms : Nat} {stk : List Value} {a : Array Value} {Φ : th_P}
    (hr : vx_Run p l e R s m args below meth c H locs kc ks mc ms (F0 m pc ls stk) (st.map (th_cv al)) (th_Qc D cA base al Φ a) (th_Xc D cA base al Φ) (fun q => base ≤ q))
    (hS : va_S (fun q => base ≤ q) s.heap H locs) (hl : lv_has ls nL (lv.map fun q => (q.1, th_cv al q.2)))
    (k : ∀ v mu', Φ (.inl v) mu' → th_G l (p, e, R, s, m, args, below, meth, c, Q, D, cA, base, al) nL (pc + 3) lv (v.toList ++ st) mu' (kc + mc) (ks + ms))
    (kx : ∀ E mu', Φ (.inr E) mu' → th_X l (p, e, R, s, m, args, below, meth, c, Q, D, cA, base, al) nL pc lv E mu' (kc + mc) (ks + ms)) : W p l e R s m args below meth c H locs kc ks Q (F0 m pc ls stk) := by
  intro T hT X
  rcases hr T hT X with ⟨v', st₀, t, T', L, h0, X', hL, e1, e2, ⟨⟨v, mu', ho, hv, hw⟩, hF⟩, stp⟩ | ⟨q, st₀, t, T', L, E, ce, h0, X', hL, e1, e2, ⟨⟨mu', ho, hw⟩, hF⟩, hce, hcv, hcl, stp⟩
  · cases hv
    obtain ⟨k1, k2, k3⟩ := vx_keep h0 e1 hS (fun q _ h => h) (fun q h => h) hL hF
    obtain ⟨t2, a1, b1⟩ := k v mu' ho T'.heap (locs ++ L) ls (by rw [e1]; exact hw) k3 hl T' rfl X'
    refine ⟨t2, stp t2 ?_, b1⟩
    cases v <;> exact a1
  · obtain ⟨k1, k2, k3⟩ := vx_keep h0 e1 hS (fun q _ h => h) (fun q h => h) hL hF
    obtain ⟨t2, a1, b1⟩ := kx E mu' ho T'.heap (locs ++ L) ls (st.map (th_cv al)) q ce (by rw [e1]; exact hw) k3 hl (by rw [e1]; exact hce) hcv hcl T' rfl X'
    exact ⟨t2, stp.trans a1, b1⟩
theorem th_runV {p : Program} {e : Env} {R : Room} {s : State} {m : MethodId} {args : Array Value} {below : List Frame} {meth : Method} {c : Code} {Q : State → Prop} {D : va_G} {cA : Nat → ClassId} {base : Nat} {al : th_A} {H : Heap} {locs : List Loc} {ls : Array Slot} {y : MethodName} {cy : ByteArray} {mL : Nat} {rety : Option FieldType} {rmy : Room} {as : List th_V} {Φ : th_P} {t i ci ix N : Nat} {Cn : String} {T : u_T} {stk : List th_V}
    (C : th_C l (p, e, R, s, m, args, below, meth, c, Q, D, cA, base, al) cc nL own rm ret tb) (hw : th_W D cA base al mu H) (hS : va_S (fun q => base ≤ q) s.heap H locs) (hl : lv_has ls nL (lv.map fun q => (q.1, th_cv al q.2)))
    (hM : th_F l y cy mL rety rmy (.inr (some (t, i)) :: as) mu Φ) (ok : th_okV own ix Cn y cy mL rety as.length) (hrm : th_okR rmy rm mL kc ks = true) (hi : i < mu.1 t) (hk : th_kd t = (0, ci)) (hc : th_Cl[ci]? = some (Cn, T, N)) (hst : st.length ≤ 8) (hd : decode cc pc = .ok (.invokevirtual ix, 3)) (hstk : as.reverse ++ .inr (some (t, i)) :: st = stk) :
    ∃ a, vx_Run p l e R s m args below meth c H locs kc ks rmy.cells rmy.slots (F0 m pc ls (stk.map (th_cv al))) (st.map (th_cv al)) (th_Qc D cA base al Φ a) (th_Xc D cA base al Φ) (fun q => base ≤ q) := by
  obtain ⟨hx, hb, hml, hown, hts, hlo, hK, hST, hbs, hR, hr, htb, htr, hal⟩ := C
  subst hstk
  subst hR
  obtain ⟨⟨hf1, hf2⟩, hf3, hf4⟩ := th_okR_of hrm
  obtain ⟨ok1, ok2, ok3⟩ := ok
  obtain ⟨cell, q1, q2, q3, q4⟩ := th_ck_obj (hw.1 t i hi) hk hc
  obtain ⟨hSl, hfc, kC, hkC, hkind⟩ := hK.1 ci _ hc
  exact ⟨_, vx_runV (C := Cn) (b := al t i) (As := as.map (th_cv al)) ⟨hx, hb, hml, hown, hts⟩ (hM D cA base al hal) ⟨th_callB hts ok1 hf1 hf2, hts _ ok2, hts _ ok3⟩ ⟨th_Pc_blind, ⟨cell, q1, by rw [q3]; rfl, by rw [q2]; exact hfc⟩, fun U hU hW => th_Pc_at hU hW hbs hw hK hST hS⟩ rfl (by simp) hl.1 (by simp [th_cv]) (lv_room (by rw [th_cat_sum]; exact hst)) hd ⟨hf3, hf4⟩⟩
theorem th_runS {p : Program} {e : Env} {R : Room} {s : State} {m : MethodId} {args : Array Value} {below : List Frame} {meth : Method} {c : Code} {Q : State → Prop} {D : va_G} {cA : Nat → ClassId} {base : Nat} {al : th_A} {H : Heap} {locs : List Loc} {ls : Array Slot} {y : MethodName} {cy : ByteArray} {mL : Nat} {rety : Option FieldType} {rmy : Room} {as : List th_V} {Φ : th_P} {ix : Nat} {stk : List th_V}
    (C : th_C l (p, e, R, s, m, args, below, meth, c, Q, D, cA, base, al) cc nL own rm ret tb) (hw : th_W D cA base al mu H) (hS : va_S (fun q => base ≤ q) s.heap H locs) (hl : lv_has ls nL (lv.map fun q => (q.1, th_cv al q.2)))
    (hM : th_F l y cy mL rety rmy as mu Φ) (ok : th_okS own ix y cy mL rety as.length) (hrm : th_okR rmy rm mL kc ks = true) (hst : st.length ≤ 8) (hd : decode cc pc = .ok (.invokestatic ix, 3)) (hstk : as.reverse ++ st = stk) :
    ∃ a, vx_Run p l e R s m args below meth c H locs kc ks rmy.cells rmy.slots (F0 m pc ls (stk.map (th_cv al))) (st.map (th_cv al)) (th_Qc D cA base al Φ a) (th_Xc D cA base al Φ) (fun q => base ≤ q) := by
  obtain ⟨hx, hb, hml, hown, hts, hlo, hK, hST, hbs, hR, hr, htb, htr, hal⟩ := C
  subst hstk
  subst hR
  obtain ⟨⟨hf1, hf2⟩, hf3, hf4⟩ := th_okR_of hrm
  obtain ⟨ok1, ok2⟩ := ok
  exact ⟨_, vx_runS (As := as.map (th_cv al)) ⟨hx, hb, hml, hown, hts⟩ (hM D cA base al hal) ⟨th_callB hts ok1 hf1 hf2, hts _ ok2⟩ ⟨th_Pc_blind, fun U hU hW => th_Pc_at hU hW hbs hw hK hST hS⟩ rfl (by simp) hl.1 (by simp) (lv_room (by rw [th_cat_sum]; exact hst)) hd ⟨hf3, hf4⟩⟩
theorem th_callV {y : MethodName} {cy : ByteArray} {mL : Nat} {rety : Option FieldType} {rmy : Room} {as : List th_V} {Φ : th_P} {t i ci ix N : Nat} {Cn : String} {T : u_T} {stk : List th_V} (C : th_C l z cc nL own rm ret tb)
    (hM : th_F l y cy mL rety rmy (.inr (some (t, i)) :: as) mu Φ) (ok : th_okV own ix Cn y cy mL rety as.length) (hrm : th_okR rmy rm mL kc ks = true) (hi : i < mu.1 t) (hk : th_kd t = (0, ci)) (hc : th_Cl[ci]? = some (Cn, T, N)) (hst : st.length ≤ 8) (hd : decode cc pc = .ok (.invokevirtual ix, 3)) (hstk : as.reverse ++ .inr (some (t, i)) :: st = stk)
    (kx : ∀ E mu', Φ (.inr E) mu' → th_X l z nL pc lv E mu' (kc + rmy.cells) (ks + rmy.slots))
    (k : ∀ v mu', Φ (.inl v) mu' → th_G l z nL (pc + 3) lv (v.toList ++ st) mu' (kc + rmy.cells) (ks + rmy.slots)) : th_G l z nL pc lv stk mu kc ks := by
  obtain ⟨p, e, R, s, m, args, below, meth, c, Q, D, cA, base, al⟩ := z
  intro H locs ls hw hS hl
  obtain ⟨a, hr⟩ := th_runV C hw hS hl hM ok hrm hi hk hc hst hd hstk
  exact th_core hr hS hl k kx
theorem th_callS {y : MethodName} {cy : ByteArray} {mL : Nat} {rety : Option FieldType} {rmy : Room} {as : List th_V} {Φ : th_P} {ix : Nat} {stk : List th_V} (C : th_C l z cc nL own rm ret tb)
    (hM : th_F l y cy mL rety rmy as mu Φ) (ok : th_okS own ix y cy mL rety as.length) (hrm : th_okR rmy rm mL kc ks = true) (hst : st.length ≤ 8) (hd : decode cc pc = .ok (.invokestatic ix, 3)) (hstk : as.reverse ++ st = stk)
    (kx : ∀ E mu', Φ (.inr E) mu' → th_X l z nL pc lv E mu' (kc + rmy.cells) (ks + rmy.slots))
    (k : ∀ v mu', Φ (.inl v) mu' → th_G l z nL (pc + 3) lv (v.toList ++ st) mu' (kc + rmy.cells) (ks + rmy.slots)) : th_G l z nL pc lv stk mu kc ks := by
  obtain ⟨p, e, R, s, m, args, below, meth, c, Q, D, cA, base, al⟩ := z
  intro H locs ls hw hS hl
  obtain ⟨a, hr⟩ := th_runS C hw hS hl hM ok hrm hst hd hstk
  exact th_core hr hS hl k kx
end BaseRows
end
section
def th_cl (t ci : Nat) (Cn : String) (T : u_T) (N : Nat) (ty : Nat → FieldType) : Prop :=
  th_kd t = (0, ci) ∧ th_Cl[ci]? = some (Cn, T, N) ∧ (∀ w ∈ u_ws Cn T N, w ∈ th_B) ∧ (∀ k, k < N → parseFieldDescriptor (T k).2.2.1 = some (ty k)) ∧ (∀ a, a < N → ∀ b, b < N → a ≠ b → (T a).2.1 ≠ (T b).2.1)
def th_fd (own : String) (ix : Nat) (T : u_T) (N kf : Nat) : Prop := kf < N ∧ Cond.fieldLink own ix (T kf).1 (T kf).2.1 (T kf).2.2.1 ∈ th_B
theorem th_toInt_add {x y : Int32} (h1 : -2147483648 ≤ x.toInt + y.toInt) (h2 : x.toInt + y.toInt ≤ 2147483647) : (x + y).toInt = x.toInt + y.toInt := by
  rw [Int32.toInt_add]
  exact Int.bmod_eq_of_le (by omega) (by omega)
theorem th_toInt_sub {x y : Int32} (h1 : -2147483648 ≤ x.toInt - y.toInt) (h2 : x.toInt - y.toInt ≤ 2147483647) : (x - y).toInt = x.toInt - y.toInt := by
  rw [Int32.toInt_sub]
  exact Int.bmod_eq_of_le (by omega) (by omega)
theorem th_lt (x : Int32) : -2147483648 ≤ x.toInt ∧ x.toInt ≤ 2147483647 := by
  have h1 := Int32.le_toInt x
  have h2 := Int32.toInt_lt x
  omega
theorem th_z0 : (0 : Int32).toInt = 0 := by decide
theorem th_eqi {x y : Int32} (h : x.toInt = y.toInt) : x = y := Int32.toInt_inj.mp h
theorem th_u_eq (I : th_I) (t i k : Nat) (v : Int32) : th_u I t i k v t i k = v := by simp [th_u, upd]
theorem th_u_tag {I : th_I} {t i k t' i' k' : Nat} {v : Int32} (h : t' ≠ t) : th_u I t i k v t' i' k' = I t' i' k' := by
  simp [th_u, h]
theorem th_u_slot {I : th_I} {t i k i' k' : Nat} {v : Int32} (h : k' ≠ k) : th_u I t i k v t i' k' = I t i' k' := by
  unfold th_u
  split
  · rename_i q
    obtain ⟨-, rfl⟩ := q
    simp [upd, h]
  · rfl
theorem th_u_idx {I : th_I} {t i k i' k' : Nat} {v : Int32} (h : i' ≠ i) : th_u I t i k v t i' k' = I t i' k' := by
  simp [th_u, h]
theorem th_u_or (I : th_I) (t i k : Nat) (v : Int32) (t' i' k' : Nat) : (t' = t ∧ i' = i ∧ k' = k ∧ th_u I t i k v t' i' k' = v) ∨ th_u I t i k v t' i' k' = I t' i' k' := by
  by_cases h1 : t' = t
  · by_cases h2 : i' = i
    · by_cases h3 : k' = k
      · subst h1; subst h2; subst h3
        exact Or.inl ⟨rfl, rfl, rfl, th_u_eq _ _ _ _ _⟩
      · subst h1
        exact Or.inr (th_u_slot h3)
    · subst h1
      exact Or.inr (th_u_idx h2)
  · exact Or.inr (th_u_tag h1)
section TQ
variable {l : Launch} {z : th_Z} {cc : ByteArray} {nL pc kc ks : Nat} {own : String} {rm : Room} {ret : Option FieldType} {tb : List ExceptionTableEntry} {lv : List (Nat × th_V)} {st : List th_V} {I : th_I} {mu : th_M}
theorem th_gen {P : th_I → Prop} (h : P I) (k : ∀ J, P J → th_G l z nL pc lv st (th_m J) kc ks) : th_G l z nL pc lv st (th_m I) kc ks := k I h
theorem tq_getI (C : th_C l z cc nL own rm ret tb) {t i ci ix kf N : Nat} {Cn : String} {T : u_T} {ty : Nat → FieldType} (hd : decode cc pc = .ok (.getfield ix, 3)) (K : th_cl t ci Cn T N ty) (F : th_fd own ix T N kf) (hr : th_fr t kf = false) (hi : i < th_cn t)
    (k : ∀ x : Int32, x = I t i kf → th_G l z nL (pc + 3) lv (.inl x :: st) (th_m I) kc ks) : th_G l z nL pc lv (.inr (some (t, i)) :: st) (th_m I) kc ks :=
  th_getI (mu := th_m I) C hd hi K.1 K.2.1 K.2.2.1 F.1 hr F.2 (k _ rfl)
theorem tq_getIe (C : th_C l z cc nL own rm ret tb) {t i ci ix kf N : Nat} {Cn : String} {T : u_T} {ty : Nat → FieldType} {x : Int32} (hd : decode cc pc = .ok (.getfield ix, 3)) (K : th_cl t ci Cn T N ty) (F : th_fd own ix T N kf) (hr : th_fr t kf = false) (hi : i < th_cn t) (hx : x = I t i kf)
    (k : th_G l z nL (pc + 3) lv (.inl x :: st) (th_m I) kc ks) : th_G l z nL pc lv (.inr (some (t, i)) :: st) (th_m I) kc ks :=
  th_getI (mu := th_m I) C hd hi K.1 K.2.1 K.2.2.1 F.1 hr F.2 (by subst hx; exact k)
theorem tq_getR (C : th_C l z cc nL own rm ret tb) {t i ci ix kf N : Nat} {Cn : String} {T : u_T} {ty : Nat → FieldType} {q : Nat × Nat} (hd : decode cc pc = .ok (.getfield ix, 3)) (K : th_cl t ci Cn T N ty) (F : th_fd own ix T N kf) (hr : th_fr t kf = true) (hi : i < th_cn t) (hv : th_P0 t i kf = some q)
    (k : th_G l z nL (pc + 3) lv (.inr (some q) :: st) (th_m I) kc ks) : th_G l z nL pc lv (.inr (some (t, i)) :: st) (th_m I) kc ks :=
  th_getR (mu := th_m I) C hd hi K.1 K.2.1 K.2.2.1 F.1 hr F.2 hv k
theorem tq_putI (C : th_C l z cc nL own rm ret tb) {t i ci ix kf N : Nat} {Cn : String} {T : u_T} {ty : Nat → FieldType} {v : Int32} (hd : decode cc pc = .ok (.putfield ix, 3)) (K : th_cl t ci Cn T N ty) (F : th_fd own ix T N kf) (hr : th_fr t kf = false) (hi : i < th_cn t) (hfin : (T kf).2.2.2 = false) (hty : ty kf = .int)
    (k : th_G l z nL (pc + 3) lv st (th_m (th_u I t i kf v)) kc ks) : th_G l z nL pc lv (.inl v :: .inr (some (t, i)) :: st) (th_m I) kc ks :=
  th_putI (mu := th_m I) C hd hi K.1 K.2.1 K.2.2.1 ty K.2.2.2.1 K.2.2.2.2 F.1 hr F.2 hfin (by rw [hty]; rfl) (by rw [hty]; rfl) k
theorem tq_putZ (C : th_C l z cc nL own rm ret tb) {t i ci ix kf N : Nat} {Cn : String} {T : u_T} {ty : Nat → FieldType} {v : Int32} (hd : decode cc pc = .ok (.putfield ix, 3)) (K : th_cl t ci Cn T N ty) (F : th_fd own ix T N kf) (hr : th_fr t kf = false) (hi : i < th_cn t) (hfin : (T kf).2.2.2 = false) (hty : ty kf = .boolean) (hv : narrow .boolean (.int v) = .int v) (hft : fits .boolean (.int v) = true)
    (k : th_G l z nL (pc + 3) lv st (th_m (th_u I t i kf v)) kc ks) : th_G l z nL pc lv (.inl v :: .inr (some (t, i)) :: st) (th_m I) kc ks :=
  th_putI (mu := th_m I) C hd hi K.1 K.2.1 K.2.2.1 ty K.2.2.2.1 K.2.2.2.2 F.1 hr F.2 hfin (by rw [hty]; exact hv) (by rw [hty]; exact hft) k
theorem th_ix_of {x : Int32} {a : Int} {L : Nat} (hx : x.toInt = a) (h0 : 0 ≤ a) (h1 : a < (L : Int)) : ∃ n : Nat, th_ix x n L ∧ (n : Int) = a ∧ n < L := by
  subst hx
  have hn : x.toNatClampNeg = x.toInt.toNat := rfl
  refine ⟨x.toInt.toNat, ⟨?_, hn⟩, by omega, by omega⟩
  rintro (h | h)
  · rw [Int32.lt_iff_toInt_lt] at h
    have h2 : (0 : Int32).toInt = 0 := by decide
    omega
  · rw [hn] at h
    omega
theorem tq_iald (C : th_C l z cc nL own rm ret tb) {t i j : Nat} {x : Int32} {a : Int} (hd : decode cc pc = .ok (.iaload, 1)) (hk : th_kd t = (1, j)) (hty : ∀ cA, (th_ty cA)[j]? = some (cA j, .int)) (hi : i < th_cn t) (hx : x.toInt = a) (h0 : 0 ≤ a) (h1 : a < (th_L0 t i : Int))
    (k : ∀ (n : Nat) (y : Int32), (n : Int) = a → n < th_L0 t i → y = I t i n → th_G l z nL (pc + 1) lv (.inl y :: st) (th_m I) kc ks) : th_G l z nL pc lv (.inl x :: .inr (some (t, i)) :: st) (th_m I) kc ks := by
  obtain ⟨n, h2, h3, h4⟩ := th_ix_of hx h0 h1
  exact th_iald (mu := th_m I) C hd hi hk hty h2 (k n _ h3 h4 rfl)
theorem tq_iast (C : th_C l z cc nL own rm ret tb) {t i j : Nat} {x v : Int32} {a : Int} (hd : decode cc pc = .ok (.iastore, 1)) (hk : th_kd t = (1, j)) (hty : ∀ cA, (th_ty cA)[j]? = some (cA j, .int)) (hi : i < th_cn t) (hx : x.toInt = a) (h0 : 0 ≤ a) (h1 : a < (th_L0 t i : Int))
    (k : ∀ n : Nat, (n : Int) = a → n < th_L0 t i → th_G l z nL (pc + 1) lv st (th_m (th_u I t i n v)) kc ks) : th_G l z nL pc lv (.inl v :: .inl x :: .inr (some (t, i)) :: st) (th_m I) kc ks := by
  obtain ⟨n, h2, h3, h4⟩ := th_ix_of hx h0 h1
  exact th_iast (mu := th_m I) C hd hi hk hty h2 (k n h3 h4)
theorem tq_aald (C : th_C l z cc nL own rm ret tb) {t i j : Nat} {x : Int32} {a : Int} {Cn : String} {q : Nat → Nat × Nat} (hd : decode cc pc = .ok (.aaload, 1)) (hk : th_kd t = (2, j)) (hty : ∀ cA, (th_ty cA)[j]? = some (cA j, .object Cn)) (hi : i < th_cn t) (hx : x.toInt = a) (h0 : 0 ≤ a) (h1 : a < (th_L0 t i : Int)) (hv : ∀ n, th_P0 t i n = some (q n))
    (k : ∀ n : Nat, (n : Int) = a → n < th_L0 t i → th_G l z nL (pc + 1) lv (.inr (some (q n)) :: st) (th_m I) kc ks) : th_G l z nL pc lv (.inl x :: .inr (some (t, i)) :: st) (th_m I) kc ks := by
  obtain ⟨n, h2, h3, h4⟩ := th_ix_of hx h0 h1
  exact th_aald (mu := th_m I) C hd hi hk hty h2 (hv n) (k n h3 h4)
theorem th_ixN {x : Int32} {a : Int} {n L : Nat} (hx : x.toInt = a) (hn : (n : Int) = a) (h1 : n < L) : th_ix x n L := by
  obtain ⟨m, h2, h3, h4⟩ := th_ix_of (L := L) hx (by omega) (by omega)
  have : m = n := by omega
  rw [← this]
  exact h2
theorem tq_ialdN (C : th_C l z cc nL own rm ret tb) {t i j n : Nat} {x : Int32} {a : Int} (hd : decode cc pc = .ok (.iaload, 1)) (hk : th_kd t = (1, j)) (hty : ∀ cA, (th_ty cA)[j]? = some (cA j, .int)) (hi : i < th_cn t) (hx : x.toInt = a) (hn : (n : Int) = a) (h1 : n < th_L0 t i)
    (k : ∀ y : Int32, y = I t i n → th_G l z nL (pc + 1) lv (.inl y :: st) (th_m I) kc ks) : th_G l z nL pc lv (.inl x :: .inr (some (t, i)) :: st) (th_m I) kc ks :=
  th_iald (mu := th_m I) C hd hi hk hty (th_ixN hx hn h1) (k _ rfl)
theorem tq_ialdE (C : th_C l z cc nL own rm ret tb) {t i j n : Nat} {x y : Int32} {a : Int} (hd : decode cc pc = .ok (.iaload, 1)) (hk : th_kd t = (1, j)) (hty : ∀ cA, (th_ty cA)[j]? = some (cA j, .int)) (hi : i < th_cn t) (hx : x.toInt = a) (hn : (n : Int) = a) (h1 : n < th_L0 t i) (hy : y = I t i n)
    (k : th_G l z nL (pc + 1) lv (.inl y :: st) (th_m I) kc ks) : th_G l z nL pc lv (.inl x :: .inr (some (t, i)) :: st) (th_m I) kc ks :=
  th_iald (mu := th_m I) C hd hi hk hty (th_ixN hx hn h1) (by subst hy; exact k)
theorem tq_iastN (C : th_C l z cc nL own rm ret tb) {t i j n : Nat} {x v : Int32} {a : Int} (hd : decode cc pc = .ok (.iastore, 1)) (hk : th_kd t = (1, j)) (hty : ∀ cA, (th_ty cA)[j]? = some (cA j, .int)) (hi : i < th_cn t) (hx : x.toInt = a) (hn : (n : Int) = a) (h1 : n < th_L0 t i)
    (k : th_G l z nL (pc + 1) lv st (th_m (th_u I t i n v)) kc ks) : th_G l z nL pc lv (.inl v :: .inl x :: .inr (some (t, i)) :: st) (th_m I) kc ks :=
  th_iast (mu := th_m I) C hd hi hk hty (th_ixN hx hn h1) k
theorem tq_aaldN (C : th_C l z cc nL own rm ret tb) {t i j n : Nat} {x : Int32} {a : Int} {Cn : String} {q : Nat → Nat × Nat} (hd : decode cc pc = .ok (.aaload, 1)) (hk : th_kd t = (2, j)) (hty : ∀ cA, (th_ty cA)[j]? = some (cA j, .object Cn)) (hi : i < th_cn t) (hx : x.toInt = a) (hn : (n : Int) = a) (h1 : n < th_L0 t i) (hv : ∀ n, th_P0 t i n = some (q n))
    (k : th_G l z nL (pc + 1) lv (.inr (some (q n)) :: st) (th_m I) kc ks) : th_G l z nL pc lv (.inl x :: .inr (some (t, i)) :: st) (th_m I) kc ks :=
  th_aald (mu := th_m I) C hd hi hk hty (th_ixN hx hn h1) (hv n) k
theorem th_nat {a : Int} (h : 0 ≤ a) : ∃ n : Nat, (n : Int) = a := ⟨a.toNat, by omega⟩
theorem tq_imul (C : th_C l z cc nL own rm ret tb) {x y : Int32} {a b : Int} (hd : decode cc pc = .ok (.imul, 1)) (hx : x.toInt = a) (hy : y.toInt = b)
    (k : ∀ r : Int32, r = x * y → (-2147483648 ≤ a * b ∧ a * b ≤ 2147483647 → r.toInt = a * b) → th_G l z nL (pc + 1) lv (.inl r :: st) mu kc ks) : th_G l z nL pc lv (.inl y :: .inl x :: st) mu kc ks := by
  subst hx; subst hy
  refine th_imul C hd (k _ rfl (fun h => ?_))
  rw [Int32.toInt_mul]
  exact Int.bmod_eq_of_le (by omega) (by omega)
theorem tq_alen (C : th_C l z cc nL own rm ret tb) {t i j : Nat} {v : Int32} (hd : decode cc pc = .ok (.arraylength, 1)) (hk : th_kd t = (1, j)) (hty : ∀ cA, (th_ty cA)[j]? = some (cA j, .int)) (hi : i < th_cn t) (hv : nI (th_L0 t i) = v)
    (k : th_G l z nL (pc + 1) lv (.inl v :: st) (th_m I) kc ks) : th_G l z nL pc lv (.inr (some (t, i)) :: st) (th_m I) kc ks := by
  subst hv
  exact th_alen (mu := th_m I) C hd hi hk hty k
theorem tq_iadd (C : th_C l z cc nL own rm ret tb) {x y : Int32} {a b : Int} (hd : decode cc pc = .ok (.iadd, 1)) (hx : x.toInt = a) (hy : y.toInt = b)
    (k : ∀ r : Int32, r = x + y → (-2147483648 ≤ a + b ∧ a + b ≤ 2147483647 → r.toInt = a + b) → th_G l z nL (pc + 1) lv (.inl r :: st) mu kc ks) : th_G l z nL pc lv (.inl y :: .inl x :: st) mu kc ks := by
  subst hx; subst hy
  exact th_iadd C hd (k _ rfl (fun h => th_toInt_add h.1 h.2))
theorem tq_isub (C : th_C l z cc nL own rm ret tb) {x y : Int32} {a b : Int} (hd : decode cc pc = .ok (.isub, 1)) (hx : x.toInt = a) (hy : y.toInt = b)
    (k : ∀ r : Int32, r = x - y → (-2147483648 ≤ a - b ∧ a - b ≤ 2147483647 → r.toInt = a - b) → th_G l z nL (pc + 1) lv (.inl r :: st) mu kc ks) : th_G l z nL pc lv (.inl y :: .inl x :: st) mu kc ks := by
  subst hx; subst hy
  exact th_isub C hd (k _ rfl (fun h => th_toInt_sub h.1 h.2))
theorem tq_ineg (C : th_C l z cc nL own rm ret tb) {x : Int32} (hd : decode cc pc = .ok (.ineg, 1))
    (k : ∀ r : Int32, r = -x → th_G l z nL (pc + 1) lv (.inl r :: st) mu kc ks) : th_G l z nL pc lv (.inl x :: st) mu kc ks :=
  th_ineg C hd (k _ rfl)
theorem tq_iinc (C : th_C l z cc nL own rm ret tb) {i : Nat} {n : Int} {x w : Int32} {a b : Int} {lv' : Int32 → List (Nat × th_V)} (hd : decode cc pc = .ok (.iinc i n, 3)) (hx0 : th_lk lv i = some (.inl x)) (hn : i < nL) (hw : Int32.ofInt n = w) (hx : x.toInt = a) (hb : w.toInt = b) (h : ∀ r, th_st lv i (.inl r) = lv' r)
    (k : ∀ r : Int32, r = x + w → (-2147483648 ≤ a + b ∧ a + b ≤ 2147483647 → r.toInt = a + b) → th_G l z nL (pc + 3) (lv' r) st mu kc ks) : th_G l z nL pc lv st mu kc ks := by
  subst hx; subst hb; subst hw
  exact th_iinc C hd hx0 rfl hn (h _) (k _ rfl (fun q => th_toInt_add q.1 q.2))
theorem tq_if_eq (C : th_C l z cc nL own rm ret tb) {x : Int32} {a : Int} {off : Int} {tgt : Nat} (hd : decode cc pc = .ok (.ifCond .eq off, 3)) (ht : (pc : Int) + off = (tgt : Int)) (hx : x.toInt = a)
    (kt : a = 0 → th_G l z nL tgt lv st mu kc ks) (kf : ¬ (a = 0) → th_G l z nL (pc + 3) lv st mu kc ks) : th_G l z nL pc lv (.inl x :: st) mu kc ks := by
  subst hx
  exact th_if_eq C hd ht (fun h => kt (by subst h; exact th_z0)) (fun h => kf (fun q => h (th_eqi (q.trans th_z0.symm))))
theorem tq_icmp_eq (C : th_C l z cc nL own rm ret tb) {x y : Int32} {a b : Int} {off : Int} {tgt : Nat} (hd : decode cc pc = .ok (.if_icmp .eq off, 3)) (ht : (pc : Int) + off = (tgt : Int)) (hx : x.toInt = a) (hy : y.toInt = b)
    (kt : a = b → th_G l z nL tgt lv st mu kc ks) (kf : ¬ (a = b) → th_G l z nL (pc + 3) lv st mu kc ks) : th_G l z nL pc lv (.inl y :: .inl x :: st) mu kc ks := by
  subst hx; subst hy
  exact th_icmp_eq C hd ht (fun h => kt (by rw [h])) (fun h => kf (fun q => h (th_eqi q)))
theorem tq_if_ne (C : th_C l z cc nL own rm ret tb) {x : Int32} {a : Int} {off : Int} {tgt : Nat} (hd : decode cc pc = .ok (.ifCond .ne off, 3)) (ht : (pc : Int) + off = (tgt : Int)) (hx : x.toInt = a)
    (kt : a ≠ 0 → th_G l z nL tgt lv st mu kc ks) (kf : ¬ (a ≠ 0) → th_G l z nL (pc + 3) lv st mu kc ks) : th_G l z nL pc lv (.inl x :: st) mu kc ks := by
  subst hx
  exact th_if_ne C hd ht (fun h => kt (fun q => h (th_eqi (q.trans th_z0.symm)))) (fun h => kf (fun q => q (by subst h; exact th_z0)))
theorem tq_icmp_ne (C : th_C l z cc nL own rm ret tb) {x y : Int32} {a b : Int} {off : Int} {tgt : Nat} (hd : decode cc pc = .ok (.if_icmp .ne off, 3)) (ht : (pc : Int) + off = (tgt : Int)) (hx : x.toInt = a) (hy : y.toInt = b)
    (kt : a ≠ b → th_G l z nL tgt lv st mu kc ks) (kf : ¬ (a ≠ b) → th_G l z nL (pc + 3) lv st mu kc ks) : th_G l z nL pc lv (.inl y :: .inl x :: st) mu kc ks := by
  subst hx; subst hy
  exact th_icmp_ne C hd ht (fun h => kt (fun q => h (th_eqi q))) (fun h => kf (fun q => q (by rw [h])))
theorem tq_if_lt (C : th_C l z cc nL own rm ret tb) {x : Int32} {a : Int} {off : Int} {tgt : Nat} (hd : decode cc pc = .ok (.ifCond .lt off, 3)) (ht : (pc : Int) + off = (tgt : Int)) (hx : x.toInt = a)
    (kt : a < 0 → th_G l z nL tgt lv st mu kc ks) (kf : ¬ (a < 0) → th_G l z nL (pc + 3) lv st mu kc ks) : th_G l z nL pc lv (.inl x :: st) mu kc ks := by
  subst hx
  exact th_if_lt C hd ht (fun h => kt (by have h2 := Int32.lt_iff_toInt_lt.mp h; rw [th_z0] at h2; exact h2)) (fun h => kf (fun q => h (Int32.lt_iff_toInt_lt.mpr (by rw [th_z0]; exact q))))
theorem tq_icmp_lt (C : th_C l z cc nL own rm ret tb) {x y : Int32} {a b : Int} {off : Int} {tgt : Nat} (hd : decode cc pc = .ok (.if_icmp .lt off, 3)) (ht : (pc : Int) + off = (tgt : Int)) (hx : x.toInt = a) (hy : y.toInt = b)
    (kt : a < b → th_G l z nL tgt lv st mu kc ks) (kf : ¬ (a < b) → th_G l z nL (pc + 3) lv st mu kc ks) : th_G l z nL pc lv (.inl y :: .inl x :: st) mu kc ks := by
  subst hx; subst hy
  exact th_icmp_lt C hd ht (fun h => kt (Int32.lt_iff_toInt_lt.mp h)) (fun h => kf (fun q => h (Int32.lt_iff_toInt_lt.mpr q)))
theorem tq_if_ge (C : th_C l z cc nL own rm ret tb) {x : Int32} {a : Int} {off : Int} {tgt : Nat} (hd : decode cc pc = .ok (.ifCond .ge off, 3)) (ht : (pc : Int) + off = (tgt : Int)) (hx : x.toInt = a)
    (kt : 0 ≤ a → th_G l z nL tgt lv st mu kc ks) (kf : ¬ (0 ≤ a) → th_G l z nL (pc + 3) lv st mu kc ks) : th_G l z nL pc lv (.inl x :: st) mu kc ks := by
  subst hx
  exact th_if_ge C hd ht (fun h => kt (by have h2 := Int32.le_iff_toInt_le.mp h; rw [th_z0] at h2; exact h2)) (fun h => kf (fun q => h (Int32.le_iff_toInt_le.mpr (by rw [th_z0]; exact q))))
theorem tq_icmp_ge (C : th_C l z cc nL own rm ret tb) {x y : Int32} {a b : Int} {off : Int} {tgt : Nat} (hd : decode cc pc = .ok (.if_icmp .ge off, 3)) (ht : (pc : Int) + off = (tgt : Int)) (hx : x.toInt = a) (hy : y.toInt = b)
    (kt : b ≤ a → th_G l z nL tgt lv st mu kc ks) (kf : ¬ (b ≤ a) → th_G l z nL (pc + 3) lv st mu kc ks) : th_G l z nL pc lv (.inl y :: .inl x :: st) mu kc ks := by
  subst hx; subst hy
  exact th_icmp_ge C hd ht (fun h => kt (Int32.le_iff_toInt_le.mp h)) (fun h => kf (fun q => h (Int32.le_iff_toInt_le.mpr q)))
theorem tq_if_gt (C : th_C l z cc nL own rm ret tb) {x : Int32} {a : Int} {off : Int} {tgt : Nat} (hd : decode cc pc = .ok (.ifCond .gt off, 3)) (ht : (pc : Int) + off = (tgt : Int)) (hx : x.toInt = a)
    (kt : 0 < a → th_G l z nL tgt lv st mu kc ks) (kf : ¬ (0 < a) → th_G l z nL (pc + 3) lv st mu kc ks) : th_G l z nL pc lv (.inl x :: st) mu kc ks := by
  subst hx
  exact th_if_gt C hd ht (fun h => kt (by have h2 := Int32.lt_iff_toInt_lt.mp h; rw [th_z0] at h2; exact h2)) (fun h => kf (fun q => h (Int32.lt_iff_toInt_lt.mpr (by rw [th_z0]; exact q))))
theorem tq_icmp_gt (C : th_C l z cc nL own rm ret tb) {x y : Int32} {a b : Int} {off : Int} {tgt : Nat} (hd : decode cc pc = .ok (.if_icmp .gt off, 3)) (ht : (pc : Int) + off = (tgt : Int)) (hx : x.toInt = a) (hy : y.toInt = b)
    (kt : b < a → th_G l z nL tgt lv st mu kc ks) (kf : ¬ (b < a) → th_G l z nL (pc + 3) lv st mu kc ks) : th_G l z nL pc lv (.inl y :: .inl x :: st) mu kc ks := by
  subst hx; subst hy
  exact th_icmp_gt C hd ht (fun h => kt (Int32.lt_iff_toInt_lt.mp h)) (fun h => kf (fun q => h (Int32.lt_iff_toInt_lt.mpr q)))
theorem tq_if_le (C : th_C l z cc nL own rm ret tb) {x : Int32} {a : Int} {off : Int} {tgt : Nat} (hd : decode cc pc = .ok (.ifCond .le off, 3)) (ht : (pc : Int) + off = (tgt : Int)) (hx : x.toInt = a)
    (kt : a ≤ 0 → th_G l z nL tgt lv st mu kc ks) (kf : ¬ (a ≤ 0) → th_G l z nL (pc + 3) lv st mu kc ks) : th_G l z nL pc lv (.inl x :: st) mu kc ks := by
  subst hx
  exact th_if_le C hd ht (fun h => kt (by have h2 := Int32.le_iff_toInt_le.mp h; rw [th_z0] at h2; exact h2)) (fun h => kf (fun q => h (Int32.le_iff_toInt_le.mpr (by rw [th_z0]; exact q))))
theorem tq_icmp_le (C : th_C l z cc nL own rm ret tb) {x y : Int32} {a b : Int} {off : Int} {tgt : Nat} (hd : decode cc pc = .ok (.if_icmp .le off, 3)) (ht : (pc : Int) + off = (tgt : Int)) (hx : x.toInt = a) (hy : y.toInt = b)
    (kt : a ≤ b → th_G l z nL tgt lv st mu kc ks) (kf : ¬ (a ≤ b) → th_G l z nL (pc + 3) lv st mu kc ks) : th_G l z nL pc lv (.inl y :: .inl x :: st) mu kc ks := by
  subst hx; subst hy
  exact th_icmp_le C hd ht (fun h => kt (Int32.le_iff_toInt_le.mp h)) (fun h => kf (fun q => h (Int32.le_iff_toInt_le.mpr q)))
def th_rp (I : th_I) (P : Int32 → Prop) : th_P := fun o mu => ∃ x, o = .inl (some (.inl x)) ∧ mu = th_m I ∧ P x
def th_rv (P : th_I → Prop) : th_P := fun o mu => ∃ J, o = .inl none ∧ mu = th_m J ∧ P J
def th_ri (P : Int32 → th_I → Prop) : th_P := fun o mu => ∃ x J, o = .inl (some (.inl x)) ∧ mu = th_m J ∧ P x J
def th_rt (I : th_I) (P : Prop) (X : String → Prop) : th_P := fun o mu => (o = .inl none ∧ mu = th_m I ∧ P) ∨ ∃ E, o = .inr E ∧ mu = th_m I ∧ X E
def th_rm (P : Int32 → th_I → Prop) (X : String → th_I → Prop) : th_P := fun o mu => (∃ x J, o = .inl (some (.inl x)) ∧ mu = th_m J ∧ P x J) ∨ ∃ E J, o = .inr E ∧ mu = th_m J ∧ X E J
theorem tq_callVp {y : MethodName} {cy : ByteArray} {mL : Nat} {rety : Option FieldType} {rmy : Room} {as : List th_V} {ix : Nat} {stk : List th_V} {t i ci N : Nat} {Cn : String} {T : u_T} {ty : Nat → FieldType} {P : Int32 → Prop} (C : th_C l z cc nL own rm ret tb) (hM : th_F l y cy mL rety rmy (.inr (some (t, i)) :: as) (th_m I) (th_rp I P)) (ok : th_okV own ix Cn y cy mL rety as.length) (K : th_cl t ci Cn T N ty) (hi : i < th_cn t) (hrm : th_okR rmy rm mL kc ks = true) (hst : st.length ≤ 8) (hd : decode cc pc = .ok (.invokevirtual ix, 3)) (hstk : as.reverse ++ .inr (some (t, i)) :: st = stk)
    (k : ∀ x : Int32, P x → th_G l z nL (pc + 3) lv (.inl x :: st) (th_m I) (kc + rmy.cells) (ks + rmy.slots)) : th_G l z nL pc lv stk (th_m I) kc ks := by
  refine th_callV (mu := th_m I) C hM ok hrm hi K.1 K.2.1 hst hd hstk (fun E mu' h => by obtain ⟨x, q, -⟩ := h; cases q) (fun v mu' h => ?_)
  obtain ⟨x, q, rfl, h⟩ := h
  cases q
  exact k x h
theorem tq_callVv {y : MethodName} {cy : ByteArray} {mL : Nat} {rety : Option FieldType} {rmy : Room} {as : List th_V} {ix : Nat} {stk : List th_V} {t i ci N : Nat} {Cn : String} {T : u_T} {ty : Nat → FieldType} {P : th_I → Prop} (C : th_C l z cc nL own rm ret tb) (hM : th_F l y cy mL rety rmy (.inr (some (t, i)) :: as) (th_m I) (th_rv P)) (ok : th_okV own ix Cn y cy mL rety as.length) (K : th_cl t ci Cn T N ty) (hi : i < th_cn t) (hrm : th_okR rmy rm mL kc ks = true) (hst : st.length ≤ 8) (hd : decode cc pc = .ok (.invokevirtual ix, 3)) (hstk : as.reverse ++ .inr (some (t, i)) :: st = stk)
    (k : ∀ J, P J → th_G l z nL (pc + 3) lv st (th_m J) (kc + rmy.cells) (ks + rmy.slots)) : th_G l z nL pc lv stk (th_m I) kc ks := by
  refine th_callV (mu := th_m I) C hM ok hrm hi K.1 K.2.1 hst hd hstk (fun E mu' h => by obtain ⟨J, q, -⟩ := h; cases q) (fun v mu' h => ?_)
  obtain ⟨J, q, rfl, h⟩ := h
  cases q
  exact k J h
theorem tq_callVi {y : MethodName} {cy : ByteArray} {mL : Nat} {rety : Option FieldType} {rmy : Room} {as : List th_V} {ix : Nat} {stk : List th_V} {t i ci N : Nat} {Cn : String} {T : u_T} {ty : Nat → FieldType} {P : Int32 → th_I → Prop} (C : th_C l z cc nL own rm ret tb) (hM : th_F l y cy mL rety rmy (.inr (some (t, i)) :: as) (th_m I) (th_ri P)) (ok : th_okV own ix Cn y cy mL rety as.length) (K : th_cl t ci Cn T N ty) (hi : i < th_cn t) (hrm : th_okR rmy rm mL kc ks = true) (hst : st.length ≤ 8) (hd : decode cc pc = .ok (.invokevirtual ix, 3)) (hstk : as.reverse ++ .inr (some (t, i)) :: st = stk)
    (k : ∀ (x : Int32) (J : th_I), P x J → th_G l z nL (pc + 3) lv (.inl x :: st) (th_m J) (kc + rmy.cells) (ks + rmy.slots)) : th_G l z nL pc lv stk (th_m I) kc ks := by
  refine th_callV (mu := th_m I) C hM ok hrm hi K.1 K.2.1 hst hd hstk (fun E mu' h => by obtain ⟨x, J, q, -⟩ := h; cases q) (fun v mu' h => ?_)
  obtain ⟨x, J, q, rfl, h⟩ := h
  cases q
  exact k x J h
theorem tq_callVt {y : MethodName} {cy : ByteArray} {mL : Nat} {rety : Option FieldType} {rmy : Room} {as : List th_V} {ix : Nat} {stk : List th_V} {t i ci N : Nat} {Cn : String} {T : u_T} {ty : Nat → FieldType} {P : Prop} {X : String → Prop} (C : th_C l z cc nL own rm ret tb) (hM : th_F l y cy mL rety rmy (.inr (some (t, i)) :: as) (th_m I) (th_rt I P X)) (ok : th_okV own ix Cn y cy mL rety as.length) (K : th_cl t ci Cn T N ty) (hi : i < th_cn t) (hrm : th_okR rmy rm mL kc ks = true) (hst : st.length ≤ 8) (hd : decode cc pc = .ok (.invokevirtual ix, 3)) (hstk : as.reverse ++ .inr (some (t, i)) :: st = stk)
    (kx : ∀ E, X E → th_X l z nL pc lv E (th_m I) (kc + rmy.cells) (ks + rmy.slots)) (k : P → th_G l z nL (pc + 3) lv st (th_m I) (kc + rmy.cells) (ks + rmy.slots)) : th_G l z nL pc lv stk (th_m I) kc ks := by
  refine th_callV (mu := th_m I) C hM ok hrm hi K.1 K.2.1 hst hd hstk (fun E mu' h => ?_) (fun v mu' h => ?_)
  · rcases h with ⟨q, -⟩ | ⟨E', q, rfl, h⟩
    · cases q
    · cases q
      exact kx E h
  · rcases h with ⟨q, rfl, h⟩ | ⟨E', q, -⟩
    · cases q
      exact k h
    · cases q
theorem tq_callVm {y : MethodName} {cy : ByteArray} {mL : Nat} {rety : Option FieldType} {rmy : Room} {as : List th_V} {ix : Nat} {stk : List th_V} {t i ci N : Nat} {Cn : String} {T : u_T} {ty : Nat → FieldType} {P : Int32 → th_I → Prop} {X : String → th_I → Prop} (C : th_C l z cc nL own rm ret tb) (hM : th_F l y cy mL rety rmy (.inr (some (t, i)) :: as) (th_m I) (th_rm P X)) (ok : th_okV own ix Cn y cy mL rety as.length) (K : th_cl t ci Cn T N ty) (hi : i < th_cn t) (hrm : th_okR rmy rm mL kc ks = true) (hst : st.length ≤ 8) (hd : decode cc pc = .ok (.invokevirtual ix, 3)) (hstk : as.reverse ++ .inr (some (t, i)) :: st = stk)
    (kx : ∀ E J, X E J → th_X l z nL pc lv E (th_m J) (kc + rmy.cells) (ks + rmy.slots)) (k : ∀ (x : Int32) (J : th_I), P x J → th_G l z nL (pc + 3) lv (.inl x :: st) (th_m J) (kc + rmy.cells) (ks + rmy.slots)) : th_G l z nL pc lv stk (th_m I) kc ks := by
  refine th_callV (mu := th_m I) C hM ok hrm hi K.1 K.2.1 hst hd hstk (fun E mu' h => ?_) (fun v mu' h => ?_)
  · rcases h with ⟨x, J, q, -⟩ | ⟨E', J, q, rfl, h⟩
    · cases q
    · cases q
      exact kx E J h
  · rcases h with ⟨x, J, q, rfl, h⟩ | ⟨E', J, q, -⟩
    · cases q
      exact k x J h
    · cases q
theorem tq_callSp {y : MethodName} {cy : ByteArray} {mL : Nat} {rety : Option FieldType} {rmy : Room} {as : List th_V} {ix : Nat} {stk : List th_V} {P : Int32 → Prop} (C : th_C l z cc nL own rm ret tb) (hM : th_F l y cy mL rety rmy as (th_m I) (th_rp I P)) (ok : th_okS own ix y cy mL rety as.length) (hrm : th_okR rmy rm mL kc ks = true) (hst : st.length ≤ 8) (hd : decode cc pc = .ok (.invokestatic ix, 3)) (hstk : as.reverse ++ st = stk)
    (k : ∀ x : Int32, P x → th_G l z nL (pc + 3) lv (.inl x :: st) (th_m I) (kc + rmy.cells) (ks + rmy.slots)) : th_G l z nL pc lv stk (th_m I) kc ks := by
  refine th_callS (mu := th_m I) C hM ok hrm hst hd hstk (fun E mu' h => by obtain ⟨x, q, -⟩ := h; cases q) (fun v mu' h => ?_)
  obtain ⟨x, q, rfl, h⟩ := h
  cases q
  exact k x h
theorem tq_callSv {y : MethodName} {cy : ByteArray} {mL : Nat} {rety : Option FieldType} {rmy : Room} {as : List th_V} {ix : Nat} {stk : List th_V} {P : th_I → Prop} (C : th_C l z cc nL own rm ret tb) (hM : th_F l y cy mL rety rmy as (th_m I) (th_rv P)) (ok : th_okS own ix y cy mL rety as.length) (hrm : th_okR rmy rm mL kc ks = true) (hst : st.length ≤ 8) (hd : decode cc pc = .ok (.invokestatic ix, 3)) (hstk : as.reverse ++ st = stk)
    (k : ∀ J, P J → th_G l z nL (pc + 3) lv st (th_m J) (kc + rmy.cells) (ks + rmy.slots)) : th_G l z nL pc lv stk (th_m I) kc ks := by
  refine th_callS (mu := th_m I) C hM ok hrm hst hd hstk (fun E mu' h => by obtain ⟨J, q, -⟩ := h; cases q) (fun v mu' h => ?_)
  obtain ⟨J, q, rfl, h⟩ := h
  cases q
  exact k J h
theorem tq_callSi {y : MethodName} {cy : ByteArray} {mL : Nat} {rety : Option FieldType} {rmy : Room} {as : List th_V} {ix : Nat} {stk : List th_V} {P : Int32 → th_I → Prop} (C : th_C l z cc nL own rm ret tb) (hM : th_F l y cy mL rety rmy as (th_m I) (th_ri P)) (ok : th_okS own ix y cy mL rety as.length) (hrm : th_okR rmy rm mL kc ks = true) (hst : st.length ≤ 8) (hd : decode cc pc = .ok (.invokestatic ix, 3)) (hstk : as.reverse ++ st = stk)
    (k : ∀ (x : Int32) (J : th_I), P x J → th_G l z nL (pc + 3) lv (.inl x :: st) (th_m J) (kc + rmy.cells) (ks + rmy.slots)) : th_G l z nL pc lv stk (th_m I) kc ks := by
  refine th_callS (mu := th_m I) C hM ok hrm hst hd hstk (fun E mu' h => by obtain ⟨x, J, q, -⟩ := h; cases q) (fun v mu' h => ?_)
  obtain ⟨x, J, q, rfl, h⟩ := h
  cases q
  exact k x J h
theorem tq_callSt {y : MethodName} {cy : ByteArray} {mL : Nat} {rety : Option FieldType} {rmy : Room} {as : List th_V} {ix : Nat} {stk : List th_V} {P : Prop} {X : String → Prop} (C : th_C l z cc nL own rm ret tb) (hM : th_F l y cy mL rety rmy as (th_m I) (th_rt I P X)) (ok : th_okS own ix y cy mL rety as.length) (hrm : th_okR rmy rm mL kc ks = true) (hst : st.length ≤ 8) (hd : decode cc pc = .ok (.invokestatic ix, 3)) (hstk : as.reverse ++ st = stk)
    (kx : ∀ E, X E → th_X l z nL pc lv E (th_m I) (kc + rmy.cells) (ks + rmy.slots)) (k : P → th_G l z nL (pc + 3) lv st (th_m I) (kc + rmy.cells) (ks + rmy.slots)) : th_G l z nL pc lv stk (th_m I) kc ks := by
  refine th_callS (mu := th_m I) C hM ok hrm hst hd hstk (fun E mu' h => ?_) (fun v mu' h => ?_)
  · rcases h with ⟨q, -⟩ | ⟨E', q, rfl, h⟩
    · cases q
    · cases q
      exact kx E h
  · rcases h with ⟨q, rfl, h⟩ | ⟨E', q, -⟩
    · cases q
      exact k h
    · cases q
theorem tq_callSm {y : MethodName} {cy : ByteArray} {mL : Nat} {rety : Option FieldType} {rmy : Room} {as : List th_V} {ix : Nat} {stk : List th_V} {P : Int32 → th_I → Prop} {X : String → th_I → Prop} (C : th_C l z cc nL own rm ret tb) (hM : th_F l y cy mL rety rmy as (th_m I) (th_rm P X)) (ok : th_okS own ix y cy mL rety as.length) (hrm : th_okR rmy rm mL kc ks = true) (hst : st.length ≤ 8) (hd : decode cc pc = .ok (.invokestatic ix, 3)) (hstk : as.reverse ++ st = stk)
    (kx : ∀ E J, X E J → th_X l z nL pc lv E (th_m J) (kc + rmy.cells) (ks + rmy.slots)) (k : ∀ (x : Int32) (J : th_I), P x J → th_G l z nL (pc + 3) lv (.inl x :: st) (th_m J) (kc + rmy.cells) (ks + rmy.slots)) : th_G l z nL pc lv stk (th_m I) kc ks := by
  refine th_callS (mu := th_m I) C hM ok hrm hst hd hstk (fun E mu' h => ?_) (fun v mu' h => ?_)
  · rcases h with ⟨x, J, q, -⟩ | ⟨E', J, q, rfl, h⟩
    · cases q
    · cases q
      exact kx E J h
  · rcases h with ⟨x, J, q, rfl, h⟩ | ⟨E', J, q, -⟩
    · cases q
      exact k x J h
    · cases q
end TQ
end
section
section MK
variable {l : Launch} {z : th_Z} {cc : ByteArray} {nL pc kc ks : Nat} {own : String} {rm : Room} {ret : Option FieldType} {tb : List ExceptionTableEntry} {lv : List (Nat × th_V)} {st : List th_V} {mu : th_M} {I : th_I}
theorem th_zald (C : th_C l z cc nL own rm ret tb) {t i j n : Nat} {x : Int32} (hd : decode cc pc = .ok (.baload, 1)) (hi : i < mu.1 t) (hk : th_kd t = (1, j)) (hty : ∀ cA, (th_ty cA)[j]? = some (cA j, .boolean)) (hin : th_ix x n (mu.2.2.2.1 t i))
    (k : th_G l z nL (pc + 1) lv (.inl (mu.2.1 t i n) :: st) mu kc ks) : th_G l z nL pc lv (.inl x :: .inr (some (t, i)) :: st) mu kc ks := by
  obtain ⟨p, e, R, s, m, args, below, meth, c, Q, D, cA, base, al⟩ := z
  obtain ⟨hx, hb, hml, hown, hts, hlo, hK, -⟩ := C
  intro H locs ls hw hS hl
  have hlt := hin.lt
  obtain ⟨hin, rfl⟩ := hin
  exact W.zald (v := .int (mu.2.1 t i x.toNatClampNeg)) hx hb (th_ck_int (hw.1 t i hi) hk) ((hK.2 j _ (hty cA)).1 _ _) (fun q => by cases q) (by rw [arrV_size]; exact hin) (by rw [arrV_read _ _ hlt]) rfl rfl hd (k H locs ls hw hS hl)
theorem th_zast (C : th_C l z cc nL own rm ret tb) {t i j n : Nat} {x v : Int32} (hd : decode cc pc = .ok (.bastore, 1)) (hi : i < mu.1 t) (hk : th_kd t = (1, j)) (hty : ∀ cA, (th_ty cA)[j]? = some (cA j, .boolean)) (hin : th_ix x n (mu.2.2.2.1 t i)) (hnar : narrow .boolean (.int v) = .int v)
    (k : th_G l z nL (pc + 1) lv st (mu.1, th_u mu.2.1 t i n v, mu.2.2) kc ks) : th_G l z nL pc lv (.inl v :: .inl x :: .inr (some (t, i)) :: st) mu kc ks := by
  obtain ⟨p, e, R, s, m, args, below, meth, c, Q, D, cA, base, al⟩ := z
  obtain ⟨hx, hb, hml, hown, hts, hlo, hK, -⟩ := C
  intro H locs ls hw hS hl
  obtain ⟨hin, rfl⟩ := hin
  refine W.zast hx hb (th_ck_int (hw.1 t i hi) hk) ((hK.2 j _ (hty cA)).1 _ _) (fun q => by cases q) (by rw [arrV_size]; exact hin) rfl rfl hd fun H1 e1 e2 e3 => ?_
  refine k H1 _ ls ?_ (hS.put e2 e3 (hw.2.2.1 t i hi)) hl
  refine th_W_put hw hi rfl ?_ e3 (fun t' i' h => th_u_ne _ _ _ h) (fun _ _ _ => rfl) rfl e2
  unfold th_ck
  rw [hk]
  show H1[al t i]? = _
  rw [e1, arrV_store]
  congr 2
  funext q
  show updV _ _ _ q = Value.int (th_u mu.2.1 t i _ v t i q)
  rw [th_u_self]
  by_cases hq : q = x.toNatClampNeg
  · subst hq
    simp [updV, upd, hnar]
  · simp [updV, upd, hq]
theorem tq_zaldN (C : th_C l z cc nL own rm ret tb) {t i j n : Nat} {x : Int32} {a : Int} (hd : decode cc pc = .ok (.baload, 1)) (hk : th_kd t = (1, j)) (hty : ∀ cA, (th_ty cA)[j]? = some (cA j, .boolean)) (hi : i < th_cn t) (hx : x.toInt = a) (hn : (n : Int) = a) (h1 : n < th_L0 t i)
    (k : ∀ y : Int32, y = I t i n → th_G l z nL (pc + 1) lv (.inl y :: st) (th_m I) kc ks) : th_G l z nL pc lv (.inl x :: .inr (some (t, i)) :: st) (th_m I) kc ks :=
  th_zald (mu := th_m I) C hd hi hk hty (th_ixN hx hn h1) (k _ rfl)
theorem tq_zaldE (C : th_C l z cc nL own rm ret tb) {t i j n : Nat} {x y : Int32} {a : Int} (hd : decode cc pc = .ok (.baload, 1)) (hk : th_kd t = (1, j)) (hty : ∀ cA, (th_ty cA)[j]? = some (cA j, .boolean)) (hi : i < th_cn t) (hx : x.toInt = a) (hn : (n : Int) = a) (h1 : n < th_L0 t i) (hy : y = I t i n)
    (k : th_G l z nL (pc + 1) lv (.inl y :: st) (th_m I) kc ks) : th_G l z nL pc lv (.inl x :: .inr (some (t, i)) :: st) (th_m I) kc ks :=
  th_zald (mu := th_m I) C hd hi hk hty (th_ixN hx hn h1) (by subst hy; exact k)
theorem tq_zastN (C : th_C l z cc nL own rm ret tb) {t i j n : Nat} {x v : Int32} {a : Int} (hd : decode cc pc = .ok (.bastore, 1)) (hk : th_kd t = (1, j)) (hty : ∀ cA, (th_ty cA)[j]? = some (cA j, .boolean)) (hi : i < th_cn t) (hx : x.toInt = a) (hn : (n : Int) = a) (h1 : n < th_L0 t i) (hnar : narrow .boolean (.int v) = .int v)
    (k : th_G l z nL (pc + 1) lv st (th_m (th_u I t i n v)) kc ks) : th_G l z nL pc lv (.inl v :: .inl x :: .inr (some (t, i)) :: st) (th_m I) kc ks :=
  th_zast (mu := th_m I) C hd hi hk hty (th_ixN hx hn h1) hnar k
theorem th_new (C : th_C l z cc nL own rm ret tb) {t i ci ix N n : Nat} {Cn : String} {T : u_T} {ty : Nat → FieldType} (hd : decode cc pc = .ok (.new ix, 3)) (K : th_cl t ci Cn T N ty) (hcl : Cond.classLink own ix Cn ∈ th_B) (hins : Cond.instantiable Cn N ∈ th_B) (hini : Cond.initialized Cn ∈ th_B) (hn : mu.2.2.2.2 = n + 1) (hi : mu.1 t = i) (ht : t < 90) (had : th_ad t i = n)
    (hz : ∀ k, k < N → (th_fr t k = true ∧ defaultValue (ty k) = .null ∧ mu.2.2.1 t i k = none) ∨ (th_fr t k = false ∧ defaultValue (ty k) = .int 0 ∧ mu.2.1 t i k = 0)) (hc1 : kc + 1 ≤ rm.cells) (hs1 : ks + N ≤ rm.slots)
    (k : th_G l z nL (pc + 3) lv (.inr (some (t, i)) :: st) (th_mk mu t i) (kc + 1) (ks + N)) : th_G l z nL pc lv st mu kc ks := by
  obtain ⟨p, e, R, s, m, args, below, meth, c, Q, D, cA, base, al⟩ := z
  obtain ⟨hx, hb, hml, hown, hts, hlo, hK, hST, hbs, hR, hr, htb, htr, hal⟩ := C
  subst hR
  intro H locs ls hw hS hl
  have hKn := hK.1 ci _ K.2.1
  have hal1 : al t i = base + n := by rw [hal t i ht, had]
  have hsz : H.size = base + n := by
    rcases hw.2.2.2 with f | f
    · omega
    · omega
  refine W.newcK hx hb hown (hts _ hcl) (hts _ hins) (hts _ hini) rfl hd hc1 hs1 hKn.2.1 rfl fun H1 kC hkC e1 z1 o1 => ?_
  have hw1 : th_W D cA base al (th_mk mu t i) H1 := by
    refine th_W_new hw hn hi hal1 o1 z1 ?_
    unfold th_ck
    rw [K.1]
    refine ⟨_, K.2.1, ?_⟩
    rw [hal1, ← hsz]
    refine (u_born ty hts K.2.2.1 hKn hkC e1 K.2.2.2.1).to fun j hj => ?_
    rcases hz j hj with ⟨a1, a2, a3⟩ | ⟨a1, a2, a3⟩
    · simp [th_fv, a1, a2, a3, th_cv]
    · simp [th_fv, a1, a2, a3]
  have hS1 : va_S (fun q => base ≤ q) s.heap H1 locs := ⟨Nat.le_trans hS.1 (by omega), fun x h1 h2 => (o1 x (Nat.lt_of_lt_of_le h1 hS.1)).trans (hS.2.1 x h1 h2), hS.2.2⟩
  have := k H1 locs ls hw1 hS1 hl
  simp only [List.map_cons, th_cv, hal1] at this
  rw [hsz]
  exact this
theorem th_newa (C : th_C l z cc nL own rm ret tb) {t i j N n : Nat} {x : Int32} {at0 : ArrayType} {ty : FieldType} (hd : decode cc pc = .ok (.newarray at0, 2)) (h9 : (at0 = .int ∧ ty = .int) ∨ (at0 = .boolean ∧ ty = .boolean)) (hk : th_kd t = (1, j)) (hty : ∀ cA, (th_ty cA)[j]? = some (cA j, ty)) (harr : Cond.arrayClass ty ∈ th_B) (hx0 : ¬ x < 0) (hxN : x.toNatClampNeg = N) (hN : N ≤ 1000) (hn : mu.2.2.2.2 = n + 1) (hi : mu.1 t = i) (ht : t < 90) (had : th_ad t i = n)
    (hL : mu.2.2.2.1 t i = N) (hz : ∀ k, mu.2.1 t i k = 0) (hc1 : kc + 1 ≤ rm.cells) (hs1 : ks + N ≤ rm.slots)
    (k : th_G l z nL (pc + 2) lv (.inr (some (t, i)) :: st) (th_mk mu t i) (kc + 1) (ks + N)) : th_G l z nL pc lv (.inl x :: st) mu kc ks := by
  obtain ⟨p, e, R, s, m, args, below, meth, c, Q, D, cA, base, al⟩ := z
  obtain ⟨hx, hb, hml, hown, hts, hlo, hK, hST, hbs, hR, hr, htb, htr, hal⟩ := C
  subst hR
  intro H locs ls hw hS hl
  have hal1 : al t i = base + n := by rw [hal t i ht, had]
  have hsz : H.size = base + n := by
    rcases hw.2.2.2 with f | f
    · omega
    · omega
  have hNm := (hK.2 j _ (hty cA)).2
  refine va_newaK (atype := at0) hx hb (by rcases h9 with ⟨rfl, rfl⟩ | ⟨rfl, rfl⟩ <;> exact hts _ harr) rfl hd rfl hx0 hxN (by rcases h9 with ⟨rfl, rfl⟩ | ⟨rfl, rfl⟩ <;> simp only [newarray.typeOf, componentBytes] <;> omega) hc1 hs1 rfl fun H1 cB e1 z1 o1 hAr hN2 => ?_
  have hdf : defaultValue (newarray.typeOf at0) = .int 0 := by rcases h9 with ⟨rfl, rfl⟩ | ⟨rfl, rfl⟩ <;> rfl
  rw [hdf] at e1
  have hNm : s.vm.findClass ("[" ++ (newarray.typeOf at0).toString) = some (cA j) := by rcases h9 with ⟨rfl, rfl⟩ | ⟨rfl, rfl⟩ <;> exact hNm
  have hcB : cB = cA j := Option.some.inj (hN2.symm.trans hNm)
  subst hcB
  have hw1 : th_W D cA base al (th_mk mu t i) H1 := by
    refine th_W_new hw hn hi hal1 o1 z1 ?_
    unfold th_ck
    rw [hk]
    show H1[al t i]? = _
    rw [hal1, ← hsz, e1, hL]
    congr 2
    funext q
    rw [hz q]
  have hS1 : va_S (fun q => base ≤ q) s.heap H1 locs := ⟨Nat.le_trans hS.1 (by omega), fun x h1 h2 => (o1 x (Nat.lt_of_lt_of_le h1 hS.1)).trans (hS.2.1 x h1 h2), hS.2.2⟩
  have := k H1 locs ls hw1 hS1 hl
  simp only [List.map_cons, th_cv, hal1] at this
  rw [hsz]
  exact this
theorem th_anew (C : th_C l z cc nL own rm ret tb) {t i j N n ix : Nat} {x : Int32} {Cn : String} (hd : decode cc pc = .ok (.anewarray ix, 3)) (hk : th_kd t = (2, j)) (hty : ∀ cA, (th_ty cA)[j]? = some (cA j, .object Cn)) (hcl : Cond.classLink own ix Cn ∈ th_B) (hov : Cn ∈ th_AO) (hx0 : ¬ x < 0) (hxN : x.toNatClampNeg = N) (hN : N ≤ 1000) (hn : mu.2.2.2.2 = n + 1) (hi : mu.1 t = i) (ht : t < 90) (had : th_ad t i = n)
    (hL : mu.2.2.2.1 t i = N) (hz : ∀ k, mu.2.2.1 t i k = none) (hc1 : kc + 1 ≤ rm.cells) (hs1 : ks + N ≤ rm.slots)
    (k : th_G l z nL (pc + 3) lv (.inr (some (t, i)) :: st) (th_mk mu t i) (kc + 1) (ks + N)) : th_G l z nL pc lv (.inl x :: st) mu kc ks := by
  obtain ⟨p, e, R, s, m, args, below, meth, c, Q, D, cA, base, al⟩ := z
  obtain ⟨hx, hb, hml, hown, hts, hlo, hK, hST, hbs, hR, hr, htb, htr, hal⟩ := C
  subst hR
  subst hxN
  intro H locs ls hw hS hl
  have hal1 : al t i = base + n := by rw [hal t i ht, had]
  have hsz : H.size = base + n := by
    rcases hw.2.2.2 with f | f
    · omega
    · omega
  obtain ⟨-, kA0, comp0, g1, g2, g3, g4⟩ := hK.2 j _ (hty cA)
  refine W.anew hx hb hown (hts _ hcl) (va_AO.use (hST.1.2.2 _ hov)) rfl hd rfl hx0 (by omega) hc1 hs1 fun cB kA comp f1 f2 f3 f4 => ?_
  have hcB : cB = cA j := Option.some.inj (f1.symm.trans g4)
  subst hcB
  generalize hH1 : H.push ({ cls := cA j, slots := Array.replicate x.toNatClampNeg .null, vm := .none } : Cell) = H1
  have z1 : H1.size = H.size + 1 := by rw [← hH1, Array.size_push]
  have e1 : H1[H.size]? = some (arrV (cA j) x.toNatClampNeg (fun _ => .null)) := by rw [← hH1, Array.getElem?_push_size, ← arrV_new]
  have o1 : ∀ q : Nat, q < H.size → H1[q]? = H[q]? := fun q hq => by rw [← hH1, Array.getElem?_push, if_neg (Nat.ne_of_lt hq)]
  have hw1 : th_W D cA base al (th_mk mu t i) H1 := by
    refine th_W_new hw hn hi hal1 o1 z1 ?_
    unfold th_ck
    rw [hk]
    show H1[al t i]? = _
    rw [hal1, ← hsz, e1, hL]
    congr 2
    funext q
    rw [hz q]
    rfl
  have hS1 : va_S (fun q => base ≤ q) s.heap H1 locs := ⟨Nat.le_trans hS.1 (by omega), fun x h1 h2 => (o1 x (Nat.lt_of_lt_of_le h1 hS.1)).trans (hS.2.1 x h1 h2), hS.2.2⟩
  have := k H1 locs ls hw1 hS1 hl
  simp only [List.map_cons, th_cv, hal1] at this
  rw [hsz]
  exact this
theorem th_objInit (C : th_C l z cc nL own rm ret tb) {q : Nat × Nat} {ix : Nat} (hd : decode cc pc = .ok (.invokespecial ix, 3)) (h1 : Cond.methodLink own ix objectInit ∈ th_B) (h2 : Cond.instanceMethod objectInit ∈ th_B) (h3 : Cond.code objectInit ⟨#[0xb1]⟩ 1 none ∈ th_B) (hf : 1 ≤ rm.frames) (hlo : st.length + 12 ≤ rm.locals)
    (k : th_G l z nL (pc + 3) lv st mu kc ks) : th_G l z nL pc lv (.inr (some q) :: st) mu kc ks := by
  obtain ⟨p, e, R, s, m, args, below, meth, c, Q, D, cA, base, al⟩ := z
  obtain ⟨hx, hb, hml, hown, hts, hlk, hK, hST, hbs, hR, hr, htb, htr, hal⟩ := C
  subst hR
  intro H locs ls hw hS hl
  exact W.objInit hx hb hown (hts _ h1) (hts _ h2) (hts _ h3) rfl (hl.1.trans hml.symm) (a := al q.1 q.2) (rest := st.map (th_cv al)) rfl hd hf (by rw [th_cat_sum]; show 0 + _ + 12 ≤ _; omega) (k H locs ls hw hS hl)
theorem th_putR (C : th_C l z cc nL own rm ret tb) {t i ci ix kf N : Nat} {Cn : String} {T : u_T} {ty : Nat → FieldType} {v : Nat × Nat} {nm : String} (hd : decode cc pc = .ok (.putfield ix, 3)) (K : th_cl t ci Cn T N ty) (F : th_fd own ix T N kf) (hi : i < mu.1 t) (hr : th_fr t kf = true) (hfin : (T kf).2.2.2 = true) (hN : th_N z nm) (hnm : nm = "<init>") (hdecl : (T kf).1 = own) (hn : ∀ a, narrow (ty kf) (.ref a) = .ref a) (hfit : ∀ a, fits (ty kf) (.ref a) = true)
    (k : th_G l z nL (pc + 3) lv st (mu.1, mu.2.1, th_ur mu.2.2.1 t i kf (some v), mu.2.2.2) kc ks) : th_G l z nL pc lv (.inr (some v) :: .inr (some (t, i)) :: st) mu kc ks := by
  obtain ⟨p, e, R, s, m, args, below, meth, c, Q, D, cA, base, al⟩ := z
  obtain ⟨hx, hb, hml, hown, hts, hlo, hK, -⟩ := C
  intro H locs ls hw hS hl
  have hap := va_apart (own := own) hts K.2.2.1 ty K.2.2.2.1 K.2.2.2.2 hK K.2.1
  obtain ⟨cell, q1, q2, q3, q4⟩ := th_ck_obj (hw.1 t i hi) K.1 K.2.1
  obtain ⟨hSl, hfc, kC, hkC, hkind⟩ := hK.1 ci _ K.2.1
  obtain ⟨cf, kff, fi, f, hfi, hsl⟩ := hSl kf F.1
  have hlay := hts _ (K.2.2.1 _ (u_in_lay F.1))
  unfold u_lay at hlay
  rw [if_pos hfin] at hlay
  have hst := (u_facts hfc hkC (u_lays hts K.2.2.1 F.1) hfi).1
  have hcf : m.cls = cf := by
    obtain ⟨_, _, c', _, _, _, -, -, hf', -, -, -, hown2, -⟩ := Cond.laysFinal_spec hlay
    have e1 : c' = cf := by have := hfi.symm.trans hf'; simp at this; exact this.1.symm
    rw [hdecl] at hown2
    rw [← e1]; exact Option.some.inj (hown.symm.trans hown2)
  have h6 := u_fits hfc hkC hkind (Or.inr hlay) hfi (K.2.2.2.1 kf F.1) (hn (al v.1 v.2)) (hfit (al v.1 v.2))
  refine W.putFinK hx hb hown (hts _ F.2) hfi hst hcf (hN.trans hnm) (by rw [q2]; exact h6) q1 q3 (by rw [hsl]; exact k2_hasslot (q4 kf F.1)) rfl rfl hd fun H' e1 e2 e3 => ?_
  rw [hsl] at e1 ⊢
  refine k H' _ ls ?_ (hS.put e2 e3 (hw.2.2.1 t i hi)) hl
  refine th_W_put hw hi rfl ?_ e3 (fun _ _ _ => rfl) (fun t' i' h => th_ur_ne _ _ _ h) rfl e2
  unfold th_ck
  rw [K.1]
  refine ⟨_, K.2.1, t_OB.to (V := updV (fun k => th_fv al mu t i k) kf (.ref (al v.1 v.2))) ⟨_, e1, q2, q3, t_set q4 hap F.1 (.ref (al v.1 v.2))⟩ (fun j _ => ?_)⟩
  by_cases hj : j = kf
  · subst hj
    simp [updV, th_fv, hr, th_ur_self, va_up, th_cv]
  · simp [updV, th_fv, hj, th_ur_self, va_up]
theorem th_putFI (C : th_C l z cc nL own rm ret tb) {t i ci ix kf N : Nat} {Cn : String} {T : u_T} {ty : Nat → FieldType} {v : Int32} {nm : String} (hd : decode cc pc = .ok (.putfield ix, 3)) (K : th_cl t ci Cn T N ty) (F : th_fd own ix T N kf) (hi : i < mu.1 t) (hr : th_fr t kf = false) (hfin : (T kf).2.2.2 = true) (hN : th_N z nm) (hnm : nm = "<init>") (hdecl : (T kf).1 = own) (hty : ty kf = .int)
    (k : th_G l z nL (pc + 3) lv st (mu.1, th_u mu.2.1 t i kf v, mu.2.2) kc ks) : th_G l z nL pc lv (.inl v :: .inr (some (t, i)) :: st) mu kc ks := by
  obtain ⟨p, e, R, s, m, args, below, meth, c, Q, D, cA, base, al⟩ := z
  obtain ⟨hx, hb, hml, hown, hts, hlo, hK, -⟩ := C
  intro H locs ls hw hS hl
  have hap := va_apart (own := own) hts K.2.2.1 ty K.2.2.2.1 K.2.2.2.2 hK K.2.1
  obtain ⟨cell, q1, q2, q3, q4⟩ := th_ck_obj (hw.1 t i hi) K.1 K.2.1
  obtain ⟨hSl, hfc, kC, hkC, hkind⟩ := hK.1 ci _ K.2.1
  obtain ⟨cf, kff, fi, f, hfi, hsl⟩ := hSl kf F.1
  have hlay := hts _ (K.2.2.1 _ (u_in_lay F.1))
  unfold u_lay at hlay
  rw [if_pos hfin] at hlay
  have hst := (u_facts hfc hkC (u_lays hts K.2.2.1 F.1) hfi).1
  have hcf : m.cls = cf := by
    obtain ⟨_, _, c', _, _, _, -, -, hf', -, -, -, hown2, -⟩ := Cond.laysFinal_spec hlay
    have e1 : c' = cf := by have := hfi.symm.trans hf'; simp at this; exact this.1.symm
    rw [hdecl] at hown2
    rw [← e1]; exact Option.some.inj (hown.symm.trans hown2)
  have h6 := u_fits hfc hkC hkind (Or.inr hlay) hfi (K.2.2.2.1 kf F.1) (v := .int v) (by rw [hty]; rfl) (by rw [hty]; rfl)
  refine W.putFinK hx hb hown (hts _ F.2) hfi hst hcf (hN.trans hnm) (by rw [q2]; exact h6) q1 q3 (by rw [hsl]; exact k2_hasslot (q4 kf F.1)) rfl rfl hd fun H' e1 e2 e3 => ?_
  rw [hsl] at e1 ⊢
  refine k H' _ ls ?_ (hS.put e2 e3 (hw.2.2.1 t i hi)) hl
  refine th_W_put hw hi rfl ?_ e3 (fun t' i' h => th_u_ne _ _ _ h) (fun _ _ _ => rfl) rfl e2
  unfold th_ck
  rw [K.1]
  refine ⟨_, K.2.1, t_OB.to (V := updV (fun k => th_fv al mu t i k) kf (.int v)) ⟨_, e1, q2, q3, t_set q4 hap F.1 (.int v)⟩ (fun j _ => ?_)⟩
  by_cases hj : j = kf
  · subst hj
    simp [updV, th_fv, hr, th_u_self, upd]
  · simp [updV, th_fv, hj, th_u_self, upd]
theorem th_aast (C : th_C l z cc nL own rm ret tb) {t i j n ci : Nat} {x : Int32} {r : vw_C} {v : Nat × Nat} (hd : decode cc pc = .ok (.aastore, 1)) (hk : th_kd t = (2, j)) (hty : ∀ cA, (th_ty cA)[j]? = some (cA j, .object r.1)) (hc : th_Cl[ci]? = some r) (hkv : th_kd v.1 = (0, ci)) (hi : i < mu.1 t) (hv : v.2 < mu.1 v.1) (hin : th_ix x n (mu.2.2.2.1 t i))
    (k : th_G l z nL (pc + 1) lv st (mu.1, mu.2.1, th_ur mu.2.2.1 t i n (some v), mu.2.2.2) kc ks) : th_G l z nL pc lv (.inr (some v) :: .inl x :: .inr (some (t, i)) :: st) mu kc ks := by
  obtain ⟨p, e, R, s, m, args, below, meth, c, Q, D, cA, base, al⟩ := z
  obtain ⟨hx, hb, hml, hown, hts, hlo, hK, -⟩ := C
  intro H locs ls hw hS hl
  have hlt := hin.lt
  obtain ⟨hin, rfl⟩ := hin
  have h0 : ¬ x < 0 := fun q => hin (Or.inl q)
  have hcell := th_ck_ref (hw.1 t i hi) hk
  obtain ⟨cellV, g1, g2, g3, -⟩ := th_ck_obj (hw.1 v.1 v.2 hv) hkv hc
  have hcls := (hK.1 ci r hc).2
  obtain ⟨-, kA, comp, k1, k2, k3, -⟩ := hK.2 j _ (hty cA)
  have hcomp : comp = D.1 ci := Option.some.inj (k3.symm.trans hcls.1)
  subst hcomp
  obtain ⟨kC, hkC, -⟩ := hcls.2
  refine W.aast hx hb hcell (fun q h => by cases h) (fun h => by cases h) k1 k2 rfl hkC ⟨h0, by rw [arrV_size]; exact hlt⟩ g1 (fun q h => by rw [g3] at h; cases h) (by rw [g2]; exact hkC) (by rw [g2]; exact va_assign hcls) rfl rfl hd fun H1 e1 z1 oq => ?_
  refine k H1 _ ls ?_ (hS.put z1 oq (hw.2.2.1 t i hi)) hl
  refine th_W_put hw hi rfl ?_ oq (fun _ _ _ => rfl) (fun t' i' h => th_ur_ne _ _ _ h) rfl z1
  unfold th_ck
  rw [hk]
  show H1[al t i]? = _
  rw [e1, arrV_store]
  congr 2
  funext q
  show updV _ _ _ q = th_cv al (.inr (th_ur mu.2.2.1 t i _ (some v) t i q))
  rw [th_ur_self]
  by_cases hq : q = x.toNatClampNeg
  · subst hq
    simp [updV, va_up, th_cv]
  · simp [updV, va_up, hq]
def th_okI (own : String) (ix : Nat) (y : MethodName) (cy : ByteArray) (mL : Nat) (n : Nat) : Prop :=
  th_okB own ix y cy mL none n ∧ y.name = "<init>" ∧ Cond.instanceMethod y ∈ th_B
def th_okN (own : String) (ix : Nat) (host : String) (y : MethodName) (cy : ByteArray) (mL : Nat) (n : Nat) : Prop :=
  (Cond.code y cy mL none ∈ th_B ∧ Cond.initialized y.cls ∈ th_B ∧ Cond.methodLinkNest own ix y host ∈ th_NB ∧ y.cls ≠ "java/lang/invoke/MethodHandle" ∧ y.cls ≠ "java/lang/invoke/VarHandle" ∧ (parseMethodDescriptor y.desc).map (fun d => d.parameters.length) = some n) ∧ y.name = "<init>" ∧ Cond.instanceMethod y ∈ th_B
theorem th_toMet {y : MethodName} {ws : List Cond} {rmy : Room} {Pc : Array Value → State → Prop} {Qc : Array Value → State → Outcome → State → Prop} {XC : String → State → State → Prop} {mc ms : Nat} {free : Addr → Prop} (h : vx_Met l y ws rmy Pc Qc XC mc ms free) (hX : ∀ E st t, ¬ XC E st t) : Met l y ws rmy Pc Qc mc ms free := by
  intro p e ha hc hk s m args below hf happ hP hK
  obtain ⟨n, o, h1, h2, h3, h4⟩ := h p e ha hc hk s m args below hf happ hP hK
  refine ⟨n, o, h1, h2, h3, ?_⟩
  rcases h4 with h4 | ⟨q, -, E, ce, L, hx, -⟩
  · exact h4
  · exact absurd hx (hX _ _ _)
theorem th_noX {D : va_G} {cA : Nat → ClassId} {base : Nat} {al : th_A} {Φ : th_P} (hX : ∀ E mu', ¬ Φ (.inr E) mu') : ∀ E st t, ¬ th_Xc D cA base al Φ E st t := by
  rintro E st t ⟨⟨mu', h, -⟩, -⟩
  exact hX _ _ h
theorem th_coreM {p : Program} {e : Env} {R : Room} {s : State} {m : MethodId} {args : Array Value} {below : List Frame} {meth : Method} {c : Code} {Q : State → Prop} {D : va_G} {cA : Nat → ClassId} {base : Nat} {al : th_A} {H : Heap} {locs : List Loc} {ls : Array Slot} {mc ms : Nat} {stk : List Value} {a : Array Value} {Φ : th_P}
    (hr : va_Run p l e R s m args below meth c H locs kc ks mc ms (F0 m pc ls stk) (st.map (th_cv al)) (th_Qc D cA base al Φ a) (fun q => base ≤ q))
    (hS : va_S (fun q => base ≤ q) s.heap H locs) (hl : lv_has ls nL (lv.map fun q => (q.1, th_cv al q.2)))
    (k : ∀ v mu', Φ (.inl v) mu' → th_G l (p, e, R, s, m, args, below, meth, c, Q, D, cA, base, al) nL (pc + 3) lv (v.toList ++ st) mu' (kc + mc) (ks + ms)) : W p l e R s m args below meth c H locs kc ks Q (F0 m pc ls stk) := by
  intro T hT X
  obtain ⟨v', st₀, t, T', L, h0, X', hL, e1, e2, ⟨⟨v, mu', ho, hv, hw⟩, hF⟩, stp⟩ := hr T hT X
  cases hv
  obtain ⟨k1, k2, k3⟩ := vx_keep h0 e1 hS (fun q _ h => h) (fun q h => h) hL hF
  obtain ⟨t2, a1, b1⟩ := k v mu' ho T'.heap (locs ++ L) ls (by rw [e1]; exact hw) k3 hl T' rfl X'
  refine ⟨t2, stp t2 ?_, b1⟩
  cases v <;> exact a1
theorem th_callI {y : MethodName} {cy : ByteArray} {mL : Nat} {rmy : Room} {as : List th_V} {Φ : th_P} {q : Nat × Nat} {ix : Nat} {stk : List th_V} (C : th_C l z cc nL own rm ret tb)
    (hM : th_F l y cy mL none rmy (.inr (some q) :: as) mu Φ) (hX : ∀ E mu', ¬ Φ (.inr E) mu') (ok : th_okI own ix y cy mL as.length) (hrm : th_okR rmy rm mL kc ks = true) (hst : st.length ≤ 8) (hd : decode cc pc = .ok (.invokespecial ix, 3)) (hstk : as.reverse ++ .inr (some q) :: st = stk)
    (k : ∀ v mu', Φ (.inl v) mu' → th_G l z nL (pc + 3) lv (v.toList ++ st) mu' (kc + rmy.cells) (ks + rmy.slots)) : th_G l z nL pc lv stk mu kc ks := by
  obtain ⟨p, e, R, s, m, args, below, meth, c, Q, D, cA, base, al⟩ := z
  intro H locs ls hw hS hl
  obtain ⟨hx, hb, hml, hown, hts, hlo, hK, hST, hbs, hR, hr, htb, htr, hal⟩ := id C
  subst hstk
  subst hR
  obtain ⟨⟨hf1, hf2⟩, hf3, hf4⟩ := th_okR_of hrm
  obtain ⟨ok1, ok2, ok3⟩ := ok
  exact th_coreM (va_runI (b := al q.1 q.2) (As := as.map (th_cv al)) (rest := st.map (th_cv al)) ⟨hx, hb, hml, hown, hts⟩ (th_toMet (hM D cA base al hal) (th_noX hX)) ⟨th_callB hts ok1 hf1 hf2, ok2, hts _ ok3⟩ ⟨th_Pc_blind, fun U hU hW => th_Pc_at (as := .inr (some q) :: as) hU hW hbs hw hK hST hS⟩ rfl (by simp) hl.1 (by simp [th_cv]) (lv_room (by rw [th_cat_sum]; exact hst)) hd ⟨hf3, hf4⟩) hS hl k
theorem th_callN {y : MethodName} {cy : ByteArray} {mL : Nat} {rmy : Room} {as : List th_V} {Φ : th_P} {q : Nat × Nat} {ix : Nat} {host : String} {stk : List th_V} (C : th_C l z cc nL own rm ret tb)
    (hM : th_F l y cy mL none rmy (.inr (some q) :: as) mu Φ) (hX : ∀ E mu', ¬ Φ (.inr E) mu') (ok : th_okN own ix host y cy mL as.length) (hrm : th_okR rmy rm mL kc ks = true) (hst : st.length ≤ 8) (hd : decode cc pc = .ok (.invokespecial ix, 3)) (hstk : as.reverse ++ .inr (some q) :: st = stk)
    (k : ∀ v mu', Φ (.inl v) mu' → th_G l z nL (pc + 3) lv (v.toList ++ st) mu' (kc + rmy.cells) (ks + rmy.slots)) : th_G l z nL pc lv stk mu kc ks := by
  obtain ⟨p, e, R, s, m, args, below, meth, c, Q, D, cA, base, al⟩ := z
  intro H locs ls hw hS hl
  obtain ⟨hx, hb, hml, hown, hts, hlo, hK, hST, hbs, hR, hr, htb, htr, hal⟩ := id C
  subst hstk
  subst hR
  obtain ⟨⟨hf1, hf2⟩, hf3, hf4⟩ := th_okR_of hrm
  obtain ⟨⟨h1, h2, h3, h4, h5, h6⟩, ok2, ok3⟩ := ok
  refine th_coreM (va_runIN (n := as.length) (host := host) (b := al q.1 q.2) (As := as.map (th_cv al)) (rest := st.map (th_cv al)) ⟨hx, hb, hml, hown, hts⟩ (th_toMet (hM D cA base al hal) (th_noX hX)) ⟨⟨⟨rfl, rfl, hf1, hf2, fun w hw a' U hW => ?_, List.mem_cons_self⟩, hts _ h1, hts _ h2, ⟨h4, h5⟩, fun sig h => ?_, va_Nw.use rfl (th_S_nw hST _ h3)⟩, ok2, hts _ ok3⟩ ⟨th_Pc_blind, fun U hU hW => th_Pc_at (as := .inr (some q) :: as) hU hW hbs hw hK hST hS⟩ rfl (by simp) hl.1 (by simp [th_cv]) (lv_room (by rw [th_cat_sum]; exact hst)) hd ⟨hf3, hf4⟩) hS hl k
  · have hm : w ∈ th_B := by
      rcases List.mem_cons.mp hw with rfl | h
      · exact h1
      · exact h
    exact word_at hW (good_of_word (List.mem_filter.mp hm).2) (hts w hm)
  · rw [h] at h6
    exact (Option.some.inj h6).symm
end MK
end
section
section TW
variable {l : Launch} {z : th_Z} {cc : ByteArray} {nL pc kc ks : Nat} {own : String} {rm : Room} {ret : Option FieldType} {tb : List ExceptionTableEntry} {lv : List (Nat × th_V)} {st : List th_V} {mu : th_M}
def th_okT (own : String) (ik ic : Nat) (E : String) (names : List String) : Prop :=
  Bundle.fit E = true ∧ (∀ n ∈ names, Bundle.fit n = true) ∧ Cond.classLink own ik E ∈ th_B ∧ Cond.initialized E ∈ th_B ∧ (∀ w ∈ vx_at0 own ic E names, w ∈ th_B ∨ w ∈ th_NB) ∧ (∀ w ∈ Cond.classLink own ik E :: Cond.initialized E :: vx_at0 own ic E names, vx_ot w = true)
theorem th_throw (C : th_C l z cc nL own rm ret tb) {E : String} {names : List String} {ik ic mc ms : Nat} {Φ : th_P} (hQ : th_Q z Φ mc ms) (ok : th_okT own ik ic E names) (d0 : decode cc pc = .ok (.new ik, 3)) (d3 : decode cc (pc + 3) = .ok (.dup, 1)) (d4 : decode cc (pc + 4) = .ok (.invokespecial ic, 3)) (d7 : decode cc (pc + 7) = .ok (.athrow, 1)) (htb : ∀ x ∈ tb, covers x (pc + 7) = false)
    (hf : names.length + 3 < rm.frames) (hlo : st.length + (13 * (names.length + 1) + 42) ≤ rm.locals) (hcl : kc + 1 ≤ rm.cells) (hsl : ks + 6 ≤ rm.slots) (hc : kc + 1 ≤ mc) (hs : ks + 6 ≤ ms) (hz : mu.2.2.2.2 = 0) (h : Φ (.inr E) mu) : th_G l z nL pc lv st mu kc ks := by
  obtain ⟨p, e, R, s, m, args, below, meth, c, Q, D, cA, base, al⟩ := z
  obtain ⟨hx, hb, hml, hown, hts, hlk, hK, hST, hbs, hR, hr, htt, htr, hal⟩ := C
  subst hR
  intro H locs ls hw hS hl
  cases hQ
  obtain ⟨o1, o2, o3, o4, o5, o6⟩ := ok
  exact vx_throw0 (A := fun q => base ≤ q) hx hb htr hown o1 o2 (hts _ o3) (hts _ o4) (fun w hw => (o5 w hw).elim (hts w) (fun q => va_Nw.use (th_nk_ot (List.mem_filter.mp q).2) (hST.2.1 w q))) o6 hST.1.1 hST.1.2.1 hS (hl.1.trans hml.symm) d0 d3 d4 d7 (by rw [htt]; exact htb) hf (by rw [th_cat_sum]; exact hlo) hcl hsl hlk
    (fun t ha h1 h2 => ⟨⟨_, h, th_W_grow hw hz h2⟩, Nat.le_trans hS.1 h1, fun q a1 a2 => (h2 q (Nat.lt_of_lt_of_le a1 hS.1)).trans (hS.2.1 q a1 a2)⟩) hS.2.2 hc hs
theorem th_gets (C : th_C l z cc nL own rm ret tb) {ix : Nat} {q : String × String × Nat × List Int32} (hd : decode cc pc = .ok (.getstatic ix, 3)) (hq : q ∈ th_SA) (hlk : Cond.fieldLink own ix q.1 q.2.1 "[I" ∈ th_B)
    (k : th_G l z nL (pc + 3) lv (.inr (some (q.2.2.1, 0)) :: st) mu kc ks) : th_G l z nL pc lv st mu kc ks := by
  obtain ⟨p, e, R, s, m, args, below, meth, c, Q, D, cA, base, al⟩ := z
  obtain ⟨hx, hb, hml, hown, hts, hlo, hK, hST, hbs, hR, hr, htt, htr, hal⟩ := C
  intro H locs ls hw hS hl
  exact va_gets hx hb (hST.2.2.2 q hq).1 hS hown (hts _ hlk) (fun x h => h) hd (k H locs ls hw hS hl)
theorem th_slen (C : th_C l z cc nL own rm ret tb) {q : String × String × Nat × List Int32} {v : Int32} (hd : decode cc pc = .ok (.arraylength, 1)) (hq : q ∈ th_SA) (hv : Int32.ofNat q.2.2.2.length = v)
    (k : th_G l z nL (pc + 1) lv (.inl v :: st) mu kc ks) : th_G l z nL pc lv (.inr (some (q.2.2.1, 0)) :: st) mu kc ks := by
  obtain ⟨p, e, R, s, m, args, below, meth, c, Q, D, cA, base, al⟩ := z
  obtain ⟨hx, hb, hml, hown, hts, hlo, hK, hST, hbs, hR, hr, htt, htr, hal⟩ := C
  subst hv
  intro H locs ls hw hS hl
  obtain ⟨-, hX, hA⟩ := hST.2.2.2 q hq
  exact va_slen hx hb hX (Nat.lt_of_lt_of_le (Nat.not_le.mp hA) hbs) hA hS hd (k H locs ls hw hS hl)
theorem th_sld (C : th_C l z cc nL own rm ret tb) {q : String × String × Nat × List Int32} {x : Int32} {a : Int} (hd : decode cc pc = .ok (.iaload, 1)) (hq : q ∈ th_SA) (hx0 : x.toInt = a) (h0 : 0 ≤ a) (h1 : a < (q.2.2.2.length : Int))
    (k : ∀ (n : Nat) (y : Int32), (n : Int) = a → n < q.2.2.2.length → y = q.2.2.2.getD n 0 → th_G l z nL (pc + 1) lv (.inl y :: st) mu kc ks) : th_G l z nL pc lv (.inl x :: .inr (some (q.2.2.1, 0)) :: st) mu kc ks := by
  obtain ⟨n, ⟨h2, h2b⟩, h3, h4⟩ := th_ix_of hx0 h0 h1
  have k := k n _ h3 h4 rfl
  subst h2b
  obtain ⟨p, e, R, s, m, args, below, meth, c, Q, D, cA, base, al⟩ := z
  obtain ⟨hx, hb, hml, hown, hts, hlo, hK, hST, hbs, hR, hr, htt, htr, hal⟩ := C
  intro H locs ls hw hS hl
  obtain ⟨-, hX, hA⟩ := hST.2.2.2 q hq
  exact va_sld hx hb hX (Nat.lt_of_lt_of_le (Nat.not_le.mp hA) hbs) hA hS h2 hd (k H locs ls hw hS hl)
end TW
end
section
theorem th_lp_le (j : Nat) : 4 ≤ (th_lp j : Int) ∧ (th_lp j : Int) ≤ 12 := by
  unfold th_lp
  split <;> decide
theorem th_nI_12 {j : Nat} {x : Int32} (h : nI (th_lp j) = x) : x.toInt = (th_lp j : Int) := by
  subst h
  unfold th_lp
  split <;> decide
def th_ok (K sl : Int) (t i k : Nat) (v : Int) : Prop := match t with
  | 0 => (match k with
    | 5 => 0 ≤ v ∧ v ≤ K
    | 6 => v = sl ∨ 0 < i
    | 7 => -1 ≤ v ∧ v ≤ 4
    | _ => True)
  | 6 => (match k with
    | 0 => v = (i : Int) ∨ 5 ≤ i
    | 6 => 0 ≤ v ∧ v ≤ 24
    | 8 => 0 ≤ v ∧ v ≤ 24
    | 13 => 0 ≤ v ∧ v ≤ 2
    | 14 => 0 ≤ v ∧ v ≤ 2
    | 16 => 0 ≤ v ∧ v ≤ 4
    | 17 => 0 ≤ v ∧ v ≤ 3
    | _ => True)
  | 7 => (match k with
    | 3 => 0 ≤ v ∧ v ≤ 24
    | _ => True)
  | 11 => (match k with
    | 2 => 0 ≤ v ∧ v ≤ (th_lp i : Int)
    | _ => True)
  | 12 => 0 ≤ v ∧ v ≤ 3
  | 14 => (match k with
    | 1 => 0 ≤ v ∧ v ≤ 5
    | _ => True)
  | 15 => 0 ≤ v ∧ v ≤ 4
  | _ => True
def th_valid (o a b : Int) : Prop := (0 ≤ o ∧ o ≤ 20) ∧ (o ≤ 4 ∨ o = 15 ∨ (17 ≤ o ∧ o ≤ 19) → 0 ≤ a ∧ a ≤ 3) ∧ (5 ≤ o ∧ o ≤ 10 → 0 ≤ a ∧ a ≤ 2) ∧ (11 ≤ o ∧ o ≤ 13 → 0 ≤ a ∧ a ≤ 4) ∧ (o = 14 ∨ o = 16 → 0 ≤ a ∧ a ≤ 24) ∧ (o = 2 ∨ o = 7 ∨ o = 12 → 0 ≤ b ∧ b ≤ 3) ∧ (o = 8 → 0 ≤ b ∧ b ≤ 2) ∧ (o = 17 → 0 ≤ b ∧ b ≤ 24)
def th_Inv (K sl : Int) (Z I : th_I) : Prop := (∀ t i k, th_ok K sl t i k (I t i k).toInt) ∧ (∀ i k, th_valid (I 8 i k).toInt (I 9 i k).toInt (I 10 i k).toInt) ∧ (1 ≤ sl ∧ sl ≤ 20 ∧ 0 ≤ K ∧ K ≤ 1000000) ∧ ∀ t i k, 17 ≤ t → I t i k = Z t i k
theorem th_put {K sl : Int} {Z I : th_I} {t i k : Nat} {v : Int32} (hI : th_Inv K sl Z I) (ht : t < 8 ∨ (10 < t ∧ t < 17)) (h : th_ok K sl t i k v.toInt) : th_Inv K sl Z (th_u I t i k v) := by
  obtain ⟨h1, h2, h3, h4⟩ := hI
  refine ⟨fun t' i' k' => ?_, fun i' k' => ?_, h3, fun t' i' k' q => by rw [th_u_tag (by omega)]; exact h4 t' i' k' q⟩
  · rcases th_u_or I t i k v t' i' k' with ⟨rfl, rfl, rfl, e⟩ | e
    · rw [e]; exact h
    · rw [e]; exact h1 t' i' k'
  · rw [th_u_tag (by omega), th_u_tag (by omega), th_u_tag (by omega)]
    exact h2 i' k'
theorem th_ok_mono {K K' sl v : Int} {t i k : Nat} (h : th_ok K sl t i k v) (hK : K ≤ K') : th_ok K' sl t i k v := by
  unfold th_ok at h ⊢
  split at h <;> first | exact h | (split at h <;> first | exact h | exact ⟨h.1, Int.le_trans h.2 hK⟩)
theorem th_mono {K K' sl : Int} {Z I : th_I} (hI : th_Inv K sl Z I) (hK : K ≤ K') (h2 : K' ≤ 1000000) : th_Inv K' sl Z I := by
  obtain ⟨h1, g2, ⟨h3, h4, h5, h6⟩, h7⟩ := hI
  exact ⟨fun t i k => th_ok_mono (h1 t i k) hK, g2, ⟨h3, h4, Int.le_trans h5 hK, h2⟩, h7⟩
theorem th_app {K sl : Int} {Z I : th_I} {i n1 n2 n3 : Nat} {a b c x : Int32} (hI : th_Inv K sl Z I) (h2 : n2 = n1) (h3 : n3 = n1) (hv : th_valid a.toInt b.toInt c.toInt) (hx : 0 ≤ x.toInt ∧ x.toInt ≤ 24) : th_Inv K sl Z (th_u (th_u (th_u (th_u I 8 i n1 a) 9 i n2 b) 10 i n3 c) 7 i 3 x) := by
  subst h2; subst h3
  obtain ⟨g1, g2, g3, g4⟩ := hI
  refine th_put ⟨fun t' i' k' => ?_, fun i' k' => ?_, g3, fun t' i' k' q => by rw [th_u_tag (by omega), th_u_tag (by omega), th_u_tag (by omega)]; exact g4 t' i' k' q⟩ (by decide) hx
  · rcases th_u_or (th_u (th_u I 8 i n3 a) 9 i n3 b) 10 i n3 c t' i' k' with ⟨rfl, rfl, rfl, -⟩ | e
    · exact trivial
    · rw [e]
      rcases th_u_or (th_u I 8 i n3 a) 9 i n3 b t' i' k' with ⟨rfl, rfl, rfl, -⟩ | e
      · exact trivial
      · rw [e]
        rcases th_u_or I 8 i n3 a t' i' k' with ⟨rfl, rfl, rfl, -⟩ | e
        · exact trivial
        · rw [e]; exact g1 t' i' k'
  · by_cases hq : i' = i ∧ k' = n3
    · obtain ⟨rfl, rfl⟩ := hq
      rw [th_u_tag (t' := 8) (by decide), th_u_tag (t' := 8) (by decide), th_u_eq, th_u_tag (t' := 9) (by decide), th_u_eq, th_u_eq]
      exact hv
    · have e : ∀ (J : th_I) (t : Nat) (v : Int32), th_u J t i n3 v t i' k' = J t i' k' := by
        intro J t v
        rcases th_u_or J t i n3 v t i' k' with ⟨-, q1, q2, -⟩ | e
        · exact absurd ⟨q1, q2⟩ hq
        · exact e
      rw [th_u_tag (t' := 8) (by decide), th_u_tag (t' := 8) (by decide), e, th_u_tag (t' := 9) (by decide), e, th_u_tag (t' := 9) (by decide), e, th_u_tag (t' := 10) (by decide), th_u_tag (t' := 10) (by decide)]
      exact g2 i' k'
def th_I0 : th_I := fun t i k => match t with
  | 0 => if k = 6 then 4 else if k = 7 then -1 else 0
  | 6 => if k = 0 then nI i else if k = 8 then 24 else 0
  | 16 => if k = 1 then -1 else 0
  | 20 => if k = 33 then 4 else 0
  | 35 => 24
  | 44 => -1
  | 53 => if k = 6 then -1 else 0
  | _ => 0
def th_Of (A J : th_I) : Prop := (∀ t i k, 20 ≤ t → J t i k = th_I0 t i k) ∧ (∀ i k, J 17 i k = A 17 i k)
theorem th_zn {v : Int32} (h : v.toInt = 1 ∨ v.toInt = 0) : narrow .boolean (.int v) = .int v := by
  rcases h with h | h
  · rw [show v = 1 from th_eqi (h.trans (by decide))]
    rfl
  · rw [show v = 0 from th_eqi (h.trans (by decide))]
    rfl
theorem th_c53 {x : Int32} {n : Nat} (e : x = th_I0 53 0 n) : (x.toInt = -1 ∧ n = 6) ∨ (x.toInt = 0 ∧ n ≠ 6) := by
  have e : x = if n = 6 then -1 else 0 := e
  by_cases h : n = 6
  · rw [if_pos h] at e
    subst e
    exact Or.inl ⟨by decide, h⟩
  · rw [if_neg h] at e
    subst e
    exact Or.inr ⟨by decide, h⟩
theorem th_oput {A I : th_I} {t i k : Nat} {v : Int32} (h : th_Of A I) (ht : t ≠ 17) (hv : th_I0 t i k = v) : th_Of A (th_u I t i k v) := by
  refine ⟨fun t' i' k' q => ?_, fun i' k' => ?_⟩
  · rcases th_u_or I t i k v t' i' k' with ⟨rfl, rfl, rfl, e⟩ | e
    · rw [e, hv]
    · rw [e]; exact h.1 t' i' k' q
  · rw [th_u_tag (by omega)]; exact h.2 i' k'
theorem th_rem5 {x : Int32} (h0 : 0 ≤ x.toInt) (h1 : x.toInt ≤ 20) : 0 ≤ (x - x / 5 * 5).toInt ∧ (x - x / 5 * 5).toInt ≤ 4 := by
  have key : ∀ n : Nat, n < 21 → 0 ≤ (Int32.ofInt (n : Int) - Int32.ofInt (n : Int) / 5 * 5).toInt ∧ (Int32.ofInt (n : Int) - Int32.ofInt (n : Int) / 5 * 5).toInt ≤ 4 := by decide +kernel
  have hx : x = Int32.ofInt x.toInt := (Int32.ofInt_toInt x).symm
  obtain ⟨n, hn⟩ : ∃ n : Nat, x.toInt = (n : Int) := ⟨x.toInt.toNat, by omega⟩
  rw [hn] at hx
  rw [hx]
  exact key n (by omega)
theorem th_f1 : ∀ n : Nat, n < 21 → (n ≤ 4 ∧ (th_s91.2.2.2.getD n 0).toInt = 4) ∨ (5 ≤ n ∧ n ≤ 10 ∧ (th_s91.2.2.2.getD n 0).toInt = 3) ∨ (11 ≤ n ∧ n ≤ 13 ∧ (th_s91.2.2.2.getD n 0).toInt = 5) ∨ ((n = 14 ∨ n = 16) ∧ (th_s91.2.2.2.getD n 0).toInt = 25) ∨ ((n = 15 ∨ (17 ≤ n ∧ n ≤ 19)) ∧ (th_s91.2.2.2.getD n 0).toInt = 4) ∨ (n = 20 ∧ (th_s91.2.2.2.getD n 0).toInt = 0) := by decide +kernel
theorem th_f2 : ∀ n : Nat, n < 21 → ((n = 2 ∨ n = 7 ∨ n = 12) ∧ (th_s92.2.2.2.getD n 0).toInt = 4) ∨ (n = 8 ∧ (th_s92.2.2.2.getD n 0).toInt = 3) ∨ (n = 17 ∧ (th_s92.2.2.2.getD n 0).toInt = 25) ∨ (¬ (n = 2 ∨ n = 7 ∨ n = 12 ∨ n = 8 ∨ n = 17) ∧ (th_s92.2.2.2.getD n 0).toInt = 0) := by decide +kernel
theorem th_val_of {o a b : Int} {n1 n2 : Nat} {y1 y2 : Int32} (h1 : n1 < 21) (h2 : n2 < 21) (m1 : (n1 : Int) = o) (e1 : y1 = th_s91.2.2.2.getD n1 0) (m2 : (n2 : Int) = o) (e2 : y2 = th_s92.2.2.2.getD n2 0) (p1 : 0 < y1.toInt → 0 ≤ a ∧ a < y1.toInt) (p2 : 0 < y2.toInt → 0 ≤ b ∧ b < y2.toInt) : th_valid o a b := by
  have f1 := th_f1 n1 h1
  have f2 := th_f2 n2 h2
  rw [← e1] at f1
  rw [← e2] at f2
  unfold th_valid
  refine ⟨?_, ?_, ?_, ?_, ?_, ?_, ?_, ?_⟩ <;> omega
theorem th_val_a {o a b : Int} {n1 : Nat} {y1 : Int32} (h1 : n1 < 21) (m1 : (n1 : Int) = o) (e1 : y1 = th_s91.2.2.2.getD n1 0) (h : th_valid o a b) : 0 < y1.toInt → 0 ≤ a ∧ a < y1.toInt := by
  have f1 := th_f1 n1 h1
  rw [← e1] at f1
  unfold th_valid at h
  omega
theorem th_val_b {o a b : Int} {n1 : Nat} {y1 : Int32} (h1 : n1 < 21) (m1 : (n1 : Int) = o) (e1 : y1 = th_s92.2.2.2.getD n1 0) (h : th_valid o a b) : 0 < y1.toInt → 0 ≤ b ∧ b < y1.toInt := by
  have f1 := th_f2 n1 h1
  rw [← e1] at f1
  unfold th_valid at h
  omega
theorem th_nI5 : ∀ i : Nat, i < 5 → (nI i).toInt = (i : Int) := by decide +kernel
theorem hth_I0 : th_Inv 0 4 th_I0 th_I0 := by
  have h0 : (0 : Int32).toInt = 0 := by decide
  refine ⟨fun t i k => ?_, fun i k => ?_, by omega, fun _ _ _ _ => rfl⟩
  · unfold th_ok
    split
    · split
      · exact ⟨by show 0 ≤ (0 : Int32).toInt; omega, by show (0 : Int32).toInt ≤ 0; omega⟩
      · exact Or.inl (show (4 : Int32).toInt = 4 by decide)
      · show -1 ≤ (-1 : Int32).toInt ∧ (-1 : Int32).toInt ≤ 4
        decide
      · trivial
    · split
      · show (nI i).toInt = (i : Int) ∨ 5 ≤ i
        by_cases h : i < 5
        · exact Or.inl (th_nI5 i h)
        · exact Or.inr (by omega)
      · exact ⟨by show 0 ≤ (0 : Int32).toInt; omega, by show (0 : Int32).toInt ≤ 24; omega⟩
      · show 0 ≤ (24 : Int32).toInt ∧ (24 : Int32).toInt ≤ 24
        decide
      · exact ⟨by show 0 ≤ (0 : Int32).toInt; omega, by show (0 : Int32).toInt ≤ 2; omega⟩
      · exact ⟨by show 0 ≤ (0 : Int32).toInt; omega, by show (0 : Int32).toInt ≤ 2; omega⟩
      · exact ⟨by show 0 ≤ (0 : Int32).toInt; omega, by show (0 : Int32).toInt ≤ 4; omega⟩
      · exact ⟨by show 0 ≤ (0 : Int32).toInt; omega, by show (0 : Int32).toInt ≤ 3; omega⟩
      · trivial
    · split
      · exact ⟨by show 0 ≤ (0 : Int32).toInt; omega, by show (0 : Int32).toInt ≤ 24; omega⟩
      · trivial
    · split
      · have := th_lp_le i
        exact ⟨by show 0 ≤ (0 : Int32).toInt; omega, by show (0 : Int32).toInt ≤ (th_lp i : Int); omega⟩
      · trivial
    · exact ⟨by show 0 ≤ (0 : Int32).toInt; omega, by show (0 : Int32).toInt ≤ 3; omega⟩
    · split
      · exact ⟨by show 0 ≤ (0 : Int32).toInt; omega, by show (0 : Int32).toInt ≤ 5; omega⟩
      · trivial
    · exact ⟨by show 0 ≤ (0 : Int32).toInt; omega, by show (0 : Int32).toInt ≤ 4; omega⟩
    · trivial
  · show th_valid (0 : Int32).toInt (0 : Int32).toInt (0 : Int32).toInt
    unfold th_valid
    omega
theorem th_ok_sl {K sl sl' v : Int} {t i k : Nat} (h : th_ok K sl t i k v) (q : ¬ (t = 0 ∧ k = 6)) : th_ok K sl' t i k v := by
  unfold th_ok at h ⊢
  split at h <;> first | exact h | (split at h <;> first | exact h | (exact absurd ⟨rfl, rfl⟩ q))
theorem th_slice {K sl : Int} {Z I : th_I} {n : Int32} (hI : th_Inv K sl Z I) (h : 1 ≤ n.toInt ∧ n.toInt ≤ 20) : th_Inv K n.toInt Z (th_u I 0 0 6 n) := by
  obtain ⟨h1, h2, h3, h4⟩ := hI
  refine ⟨fun t' i' k' => ?_, fun i' k' => ?_, ⟨h.1, h.2, h3.2.2.1, h3.2.2.2⟩, fun t' i' k' q => by rw [th_u_tag (by omega)]; exact h4 t' i' k' q⟩
  · by_cases q : t' = 0 ∧ k' = 6
    · obtain ⟨rfl, rfl⟩ := q
      by_cases q2 : i' = 0
      · subst q2
        rw [th_u_eq]
        exact Or.inl rfl
      · exact Or.inr (by omega)
    · rcases th_u_or I 0 0 6 n t' i' k' with ⟨rfl, rfl, rfl, e⟩ | e
      · exact absurd ⟨rfl, rfl⟩ q
      · rw [e]
        exact th_ok_sl (h1 t' i' k') q
  · rw [th_u_tag (by omega), th_u_tag (by omega), th_u_tag (by omega)]
    exact h2 i' k'

theorem tb {w : Cond} (n : Nat) (h : lw_tbl[n]? = some w) (g : goodWord w = true) : w ∈ th_B := List.mem_filter.mpr ⟨List.mem_of_getElem? h, g⟩
theorem tn {w : Cond} (n : Nat) (h : lw_tbl[n]? = some w) (g : th_nk w = true) : w ∈ th_NB := List.mem_filter.mpr ⟨List.mem_of_getElem? h, g⟩
end
section
theorem cl_16 : th_cl 16 0 rn_M tf_M 3 ft_M := ⟨rfl, rfl, by decide +kernel, ft_M_ok, nm_M⟩
theorem cl_11 : th_cl 11 1 rn_Q tf_Q 3 ft_Q := ⟨rfl, rfl, by decide +kernel, ft_Q_ok, nm_Q⟩
theorem cl_7 : th_cl 7 2 rn_P tf_P 4 ft_P := ⟨rfl, rfl, by decide +kernel, ft_P_ok, nm_P⟩
theorem cl_14 : th_cl 14 3 rn_R tf_R 2 ft_R := ⟨rfl, rfl, by decide +kernel, ft_R_ok, nm_R⟩
theorem cl_6 : th_cl 6 4 rn_S tf_S 18 ft_S := ⟨rfl, rfl, by decide +kernel, ft_S_ok, nm_S⟩
theorem cl_0 : th_cl 0 5 rn_H tf_H 12 ft_H := ⟨rfl, rfl, by decide +kernel, ft_H_ok, nm_H⟩
theorem cl_20 : th_cl 20 6 rn_O tf_O 36 ft_O := ⟨rfl, rfl, by decide +kernel, ft_O_ok, nm_O⟩
theorem dc_S_isAlive_0 : decode cb_S_isAlive 0 = .ok (.aload_n 0, 1) := by decide +kernel
theorem dc_S_isAlive_1 : decode cb_S_isAlive 1 = .ok (.getfield 37, 3) := by decide +kernel
theorem dc_S_isAlive_4 : decode cb_S_isAlive 4 = .ok (.ifCond .eq 15, 3) := by decide +kernel
theorem dc_S_isAlive_7 : decode cb_S_isAlive 7 = .ok (.aload_n 0, 1) := by decide +kernel
theorem dc_S_isAlive_8 : decode cb_S_isAlive 8 = .ok (.getfield 37, 3) := by decide +kernel
theorem dc_S_isAlive_11 : decode cb_S_isAlive 11 = .ok (.iconst 5, 1) := by decide +kernel
theorem dc_S_isAlive_12 : decode cb_S_isAlive 12 = .ok (.if_icmp .eq 7, 3) := by decide +kernel
theorem dc_S_isAlive_15 : decode cb_S_isAlive 15 = .ok (.iconst 1, 1) := by decide +kernel
theorem dc_S_isAlive_16 : decode cb_S_isAlive 16 = .ok (.goto 4, 3) := by decide +kernel
theorem dc_S_isAlive_19 : decode cb_S_isAlive 19 = .ok (.iconst 0, 1) := by decide +kernel
theorem dc_S_isAlive_20 : decode cb_S_isAlive 20 = .ok (.ireturn, 1) := by decide +kernel
theorem dc_S_forgetInterrupt_0 : decode cb_S_forgetInterrupt 0 = .ok (.aload_n 0, 1) := by decide +kernel
theorem dc_S_forgetInterrupt_1 : decode cb_S_forgetInterrupt 1 = .ok (.iconst 0, 1) := by decide +kernel
theorem dc_S_forgetInterrupt_2 : decode cb_S_forgetInterrupt 2 = .ok (.putfield 65, 3) := by decide +kernel
theorem dc_S_forgetInterrupt_5 : decode cb_S_forgetInterrupt 5 = .ok (.aload_n 0, 1) := by decide +kernel
theorem dc_S_forgetInterrupt_6 : decode cb_S_forgetInterrupt 6 = .ok (.iconst 0, 1) := by decide +kernel
theorem dc_S_forgetInterrupt_7 : decode cb_S_forgetInterrupt 7 = .ok (.putfield 69, 3) := by decide +kernel
theorem dc_S_forgetInterrupt_10 : decode cb_S_forgetInterrupt 10 = .ok (.return_, 1) := by decide +kernel
theorem dc_S_forgetAll_0 : decode cb_S_forgetAll 0 = .ok (.aload_n 0, 1) := by decide +kernel
theorem dc_S_forgetAll_1 : decode cb_S_forgetAll 1 = .ok (.getfield 23, 3) := by decide +kernel
theorem dc_S_forgetAll_4 : decode cb_S_forgetAll 4 = .ok (.iconst 0, 1) := by decide +kernel
theorem dc_S_forgetAll_5 : decode cb_S_forgetAll 5 = .ok (.putfield 59, 3) := by decide +kernel
theorem dc_S_forgetAll_8 : decode cb_S_forgetAll 8 = .ok (.aload_n 0, 1) := by decide +kernel
theorem dc_S_forgetAll_9 : decode cb_S_forgetAll 9 = .ok (.getfield 27, 3) := by decide +kernel
theorem dc_S_forgetAll_12 : decode cb_S_forgetAll 12 = .ok (.iconst 0, 1) := by decide +kernel
theorem dc_S_forgetAll_13 : decode cb_S_forgetAll 13 = .ok (.putfield 59, 3) := by decide +kernel
theorem dc_S_forgetAll_16 : decode cb_S_forgetAll 16 = .ok (.aload_n 0, 1) := by decide +kernel
theorem dc_S_forgetAll_17 : decode cb_S_forgetAll 17 = .ok (.bipush 24, 2) := by decide +kernel
theorem dc_S_forgetAll_19 : decode cb_S_forgetAll 19 = .ok (.putfield 41, 3) := by decide +kernel
theorem dc_S_forgetAll_22 : decode cb_S_forgetAll 22 = .ok (.aload_n 0, 1) := by decide +kernel
theorem dc_S_forgetAll_23 : decode cb_S_forgetAll 23 = .ok (.invokevirtual 62, 3) := by decide +kernel
theorem dc_S_forgetAll_26 : decode cb_S_forgetAll 26 = .ok (.return_, 1) := by decide +kernel
theorem dc_S_beginAnew_0 : decode cb_S_beginAnew 0 = .ok (.aload_n 0, 1) := by decide +kernel
theorem dc_S_beginAnew_1 : decode cb_S_beginAnew 1 = .ok (.invokevirtual 47, 3) := by decide +kernel
theorem dc_S_beginAnew_4 : decode cb_S_beginAnew 4 = .ok (.aload_n 0, 1) := by decide +kernel
theorem dc_S_beginAnew_5 : decode cb_S_beginAnew 5 = .ok (.iconst 1, 1) := by decide +kernel
theorem dc_S_beginAnew_6 : decode cb_S_beginAnew 6 = .ok (.putfield 37, 3) := by decide +kernel
theorem dc_S_beginAnew_9 : decode cb_S_beginAnew 9 = .ok (.aload_n 0, 1) := by decide +kernel
theorem dc_S_beginAnew_10 : decode cb_S_beginAnew 10 = .ok (.iconst 0, 1) := by decide +kernel
theorem dc_S_beginAnew_11 : decode cb_S_beginAnew 11 = .ok (.putfield 50, 3) := by decide +kernel
theorem dc_S_beginAnew_14 : decode cb_S_beginAnew 14 = .ok (.aload_n 0, 1) := by decide +kernel
theorem dc_S_beginAnew_15 : decode cb_S_beginAnew 15 = .ok (.iconst 0, 1) := by decide +kernel
theorem dc_S_beginAnew_16 : decode cb_S_beginAnew 16 = .ok (.putfield 53, 3) := by decide +kernel
theorem dc_S_beginAnew_19 : decode cb_S_beginAnew 19 = .ok (.aload_n 0, 1) := by decide +kernel
theorem dc_S_beginAnew_20 : decode cb_S_beginAnew 20 = .ok (.dup, 1) := by decide +kernel
theorem dc_S_beginAnew_21 : decode cb_S_beginAnew 21 = .ok (.getfield 56, 3) := by decide +kernel
theorem dc_S_beginAnew_24 : decode cb_S_beginAnew 24 = .ok (.iconst 1, 1) := by decide +kernel
theorem dc_S_beginAnew_25 : decode cb_S_beginAnew 25 = .ok (.iadd, 1) := by decide +kernel
theorem dc_S_beginAnew_26 : decode cb_S_beginAnew 26 = .ok (.putfield 56, 3) := by decide +kernel
theorem dc_S_beginAnew_29 : decode cb_S_beginAnew 29 = .ok (.return_, 1) := by decide +kernel
theorem dc_P_append_0 : decode cb_P_append 0 = .ok (.aload_n 0, 1) := by decide +kernel
theorem dc_P_append_1 : decode cb_P_append 1 = .ok (.getfield 21, 3) := by decide +kernel
theorem dc_P_append_4 : decode cb_P_append 4 = .ok (.bipush 24, 2) := by decide +kernel
theorem dc_P_append_6 : decode cb_P_append 6 = .ok (.if_icmp .ge 43, 3) := by decide +kernel
theorem dc_P_append_9 : decode cb_P_append 9 = .ok (.aload_n 0, 1) := by decide +kernel
theorem dc_P_append_10 : decode cb_P_append 10 = .ok (.getfield 9, 3) := by decide +kernel
theorem dc_P_append_13 : decode cb_P_append 13 = .ok (.aload_n 0, 1) := by decide +kernel
theorem dc_P_append_14 : decode cb_P_append 14 = .ok (.getfield 21, 3) := by decide +kernel
theorem dc_P_append_17 : decode cb_P_append 17 = .ok (.iload_n 1, 1) := by decide +kernel
theorem dc_P_append_18 : decode cb_P_append 18 = .ok (.iastore, 1) := by decide +kernel
theorem dc_P_append_19 : decode cb_P_append 19 = .ok (.aload_n 0, 1) := by decide +kernel
theorem dc_P_append_20 : decode cb_P_append 20 = .ok (.getfield 15, 3) := by decide +kernel
theorem dc_P_append_23 : decode cb_P_append 23 = .ok (.aload_n 0, 1) := by decide +kernel
theorem dc_P_append_24 : decode cb_P_append 24 = .ok (.getfield 21, 3) := by decide +kernel
theorem dc_P_append_27 : decode cb_P_append 27 = .ok (.iload_n 2, 1) := by decide +kernel
theorem dc_P_append_28 : decode cb_P_append 28 = .ok (.iastore, 1) := by decide +kernel
theorem dc_P_append_29 : decode cb_P_append 29 = .ok (.aload_n 0, 1) := by decide +kernel
theorem dc_P_append_30 : decode cb_P_append 30 = .ok (.getfield 18, 3) := by decide +kernel
theorem dc_P_append_33 : decode cb_P_append 33 = .ok (.aload_n 0, 1) := by decide +kernel
theorem dc_P_append_34 : decode cb_P_append 34 = .ok (.getfield 21, 3) := by decide +kernel
theorem dc_P_append_37 : decode cb_P_append 37 = .ok (.iload_n 3, 1) := by decide +kernel
theorem dc_P_append_38 : decode cb_P_append 38 = .ok (.iastore, 1) := by decide +kernel
theorem dc_P_append_39 : decode cb_P_append 39 = .ok (.aload_n 0, 1) := by decide +kernel
theorem dc_P_append_40 : decode cb_P_append 40 = .ok (.dup, 1) := by decide +kernel
theorem dc_P_append_41 : decode cb_P_append 41 = .ok (.getfield 21, 3) := by decide +kernel
theorem dc_P_append_44 : decode cb_P_append 44 = .ok (.iconst 1, 1) := by decide +kernel
theorem dc_P_append_45 : decode cb_P_append 45 = .ok (.iadd, 1) := by decide +kernel
theorem dc_P_append_46 : decode cb_P_append 46 = .ok (.putfield 21, 3) := by decide +kernel
theorem dc_P_append_49 : decode cb_P_append 49 = .ok (.return_, 1) := by decide +kernel
theorem dc_Q_isFull_0 : decode cb_Q_isFull 0 = .ok (.aload_n 0, 1) := by decide +kernel
theorem dc_Q_isFull_1 : decode cb_Q_isFull 1 = .ok (.getfield 18, 3) := by decide +kernel
theorem dc_Q_isFull_4 : decode cb_Q_isFull 4 = .ok (.aload_n 0, 1) := by decide +kernel
theorem dc_Q_isFull_5 : decode cb_Q_isFull 5 = .ok (.getfield 9, 3) := by decide +kernel
theorem dc_Q_isFull_8 : decode cb_Q_isFull 8 = .ok (.arraylength, 1) := by decide +kernel
theorem dc_Q_isFull_9 : decode cb_Q_isFull 9 = .ok (.if_icmp .lt 7, 3) := by decide +kernel
theorem dc_Q_isFull_12 : decode cb_Q_isFull 12 = .ok (.iconst 1, 1) := by decide +kernel
theorem dc_Q_isFull_13 : decode cb_Q_isFull 13 = .ok (.goto 4, 3) := by decide +kernel
theorem dc_Q_isFull_16 : decode cb_Q_isFull 16 = .ok (.iconst 0, 1) := by decide +kernel
theorem dc_Q_isFull_17 : decode cb_Q_isFull 17 = .ok (.ireturn, 1) := by decide +kernel
theorem dc_Q_latest_0 : decode cb_Q_latest 0 = .ok (.aload_n 0, 1) := by decide +kernel
theorem dc_Q_latest_1 : decode cb_Q_latest 1 = .ok (.getfield 18, 3) := by decide +kernel
theorem dc_Q_latest_4 : decode cb_Q_latest 4 = .ok (.iconst 1, 1) := by decide +kernel
theorem dc_Q_latest_5 : decode cb_Q_latest 5 = .ok (.isub, 1) := by decide +kernel
theorem dc_Q_latest_6 : decode cb_Q_latest 6 = .ok (.istore_n 2, 1) := by decide +kernel
theorem dc_Q_latest_7 : decode cb_Q_latest 7 = .ok (.iload_n 2, 1) := by decide +kernel
theorem dc_Q_latest_8 : decode cb_Q_latest 8 = .ok (.ifCond .lt 21, 3) := by decide +kernel
theorem dc_Q_latest_11 : decode cb_Q_latest 11 = .ok (.aload_n 0, 1) := by decide +kernel
theorem dc_Q_latest_12 : decode cb_Q_latest 12 = .ok (.getfield 9, 3) := by decide +kernel
theorem dc_Q_latest_15 : decode cb_Q_latest 15 = .ok (.iload_n 2, 1) := by decide +kernel
theorem dc_Q_latest_16 : decode cb_Q_latest 16 = .ok (.iaload, 1) := by decide +kernel
theorem dc_Q_latest_17 : decode cb_Q_latest 17 = .ok (.iload_n 1, 1) := by decide +kernel
theorem dc_Q_latest_18 : decode cb_Q_latest 18 = .ok (.if_icmp .ne 5, 3) := by decide +kernel
theorem dc_Q_latest_21 : decode cb_Q_latest 21 = .ok (.iload_n 2, 1) := by decide +kernel
theorem dc_Q_latest_22 : decode cb_Q_latest 22 = .ok (.ireturn, 1) := by decide +kernel
theorem dc_Q_latest_23 : decode cb_Q_latest 23 = .ok (.iinc 2 (-1), 3) := by decide +kernel
theorem dc_Q_latest_26 : decode cb_Q_latest 26 = .ok (.goto (-19), 3) := by decide +kernel
theorem dc_Q_latest_29 : decode cb_Q_latest 29 = .ok (.iconst (-1), 1) := by decide +kernel
theorem dc_Q_latest_30 : decode cb_Q_latest 30 = .ok (.ireturn, 1) := by decide +kernel
theorem dc_Q_append_0 : decode cb_Q_append 0 = .ok (.aload_n 0, 1) := by decide +kernel
theorem dc_Q_append_1 : decode cb_Q_append 1 = .ok (.invokevirtual 22, 3) := by decide +kernel
theorem dc_Q_append_4 : decode cb_Q_append 4 = .ok (.ifCond .ne 33, 3) := by decide +kernel
theorem dc_Q_append_7 : decode cb_Q_append 7 = .ok (.aload_n 0, 1) := by decide +kernel
theorem dc_Q_append_8 : decode cb_Q_append 8 = .ok (.getfield 9, 3) := by decide +kernel
theorem dc_Q_append_11 : decode cb_Q_append 11 = .ok (.aload_n 0, 1) := by decide +kernel
theorem dc_Q_append_12 : decode cb_Q_append 12 = .ok (.getfield 18, 3) := by decide +kernel
theorem dc_Q_append_15 : decode cb_Q_append 15 = .ok (.iload_n 1, 1) := by decide +kernel
theorem dc_Q_append_16 : decode cb_Q_append 16 = .ok (.iastore, 1) := by decide +kernel
theorem dc_Q_append_17 : decode cb_Q_append 17 = .ok (.aload_n 0, 1) := by decide +kernel
theorem dc_Q_append_18 : decode cb_Q_append 18 = .ok (.getfield 15, 3) := by decide +kernel
theorem dc_Q_append_21 : decode cb_Q_append 21 = .ok (.aload_n 0, 1) := by decide +kernel
theorem dc_Q_append_22 : decode cb_Q_append 22 = .ok (.getfield 18, 3) := by decide +kernel
theorem dc_Q_append_25 : decode cb_Q_append 25 = .ok (.iload_n 2, 1) := by decide +kernel
theorem dc_Q_append_26 : decode cb_Q_append 26 = .ok (.iastore, 1) := by decide +kernel
theorem dc_Q_append_27 : decode cb_Q_append 27 = .ok (.aload_n 0, 1) := by decide +kernel
theorem dc_Q_append_28 : decode cb_Q_append 28 = .ok (.dup, 1) := by decide +kernel
theorem dc_Q_append_29 : decode cb_Q_append 29 = .ok (.getfield 18, 3) := by decide +kernel
theorem dc_Q_append_32 : decode cb_Q_append 32 = .ok (.iconst 1, 1) := by decide +kernel
theorem dc_Q_append_33 : decode cb_Q_append 33 = .ok (.iadd, 1) := by decide +kernel
theorem dc_Q_append_34 : decode cb_Q_append 34 = .ok (.putfield 18, 3) := by decide +kernel
theorem dc_Q_append_37 : decode cb_Q_append 37 = .ok (.return_, 1) := by decide +kernel
theorem dc_Q_takeOut_0 : decode cb_Q_takeOut 0 = .ok (.iload_n 1, 1) := by decide +kernel
theorem dc_Q_takeOut_1 : decode cb_Q_takeOut 1 = .ok (.iconst 1, 1) := by decide +kernel
theorem dc_Q_takeOut_2 : decode cb_Q_takeOut 2 = .ok (.iadd, 1) := by decide +kernel
theorem dc_Q_takeOut_3 : decode cb_Q_takeOut 3 = .ok (.istore_n 2, 1) := by decide +kernel
theorem dc_Q_takeOut_4 : decode cb_Q_takeOut 4 = .ok (.iload_n 2, 1) := by decide +kernel
theorem dc_Q_takeOut_5 : decode cb_Q_takeOut 5 = .ok (.aload_n 0, 1) := by decide +kernel
theorem dc_Q_takeOut_6 : decode cb_Q_takeOut 6 = .ok (.getfield 18, 3) := by decide +kernel
theorem dc_Q_takeOut_9 : decode cb_Q_takeOut 9 = .ok (.if_icmp .ge 37, 3) := by decide +kernel
theorem dc_Q_takeOut_12 : decode cb_Q_takeOut 12 = .ok (.aload_n 0, 1) := by decide +kernel
theorem dc_Q_takeOut_13 : decode cb_Q_takeOut 13 = .ok (.getfield 9, 3) := by decide +kernel
theorem dc_Q_takeOut_16 : decode cb_Q_takeOut 16 = .ok (.iload_n 2, 1) := by decide +kernel
theorem dc_Q_takeOut_17 : decode cb_Q_takeOut 17 = .ok (.iconst 1, 1) := by decide +kernel
theorem dc_Q_takeOut_18 : decode cb_Q_takeOut 18 = .ok (.isub, 1) := by decide +kernel
theorem dc_Q_takeOut_19 : decode cb_Q_takeOut 19 = .ok (.aload_n 0, 1) := by decide +kernel
theorem dc_Q_takeOut_20 : decode cb_Q_takeOut 20 = .ok (.getfield 9, 3) := by decide +kernel
theorem dc_Q_takeOut_23 : decode cb_Q_takeOut 23 = .ok (.iload_n 2, 1) := by decide +kernel
theorem dc_Q_takeOut_24 : decode cb_Q_takeOut 24 = .ok (.iaload, 1) := by decide +kernel
theorem dc_Q_takeOut_25 : decode cb_Q_takeOut 25 = .ok (.iastore, 1) := by decide +kernel
theorem dc_Q_takeOut_26 : decode cb_Q_takeOut 26 = .ok (.aload_n 0, 1) := by decide +kernel
theorem dc_Q_takeOut_27 : decode cb_Q_takeOut 27 = .ok (.getfield 15, 3) := by decide +kernel
theorem dc_Q_takeOut_30 : decode cb_Q_takeOut 30 = .ok (.iload_n 2, 1) := by decide +kernel
theorem dc_Q_takeOut_31 : decode cb_Q_takeOut 31 = .ok (.iconst 1, 1) := by decide +kernel
theorem dc_Q_takeOut_32 : decode cb_Q_takeOut 32 = .ok (.isub, 1) := by decide +kernel
theorem dc_Q_takeOut_33 : decode cb_Q_takeOut 33 = .ok (.aload_n 0, 1) := by decide +kernel
theorem dc_Q_takeOut_34 : decode cb_Q_takeOut 34 = .ok (.getfield 15, 3) := by decide +kernel
theorem dc_Q_takeOut_37 : decode cb_Q_takeOut 37 = .ok (.iload_n 2, 1) := by decide +kernel
theorem dc_Q_takeOut_38 : decode cb_Q_takeOut 38 = .ok (.iaload, 1) := by decide +kernel
theorem dc_Q_takeOut_39 : decode cb_Q_takeOut 39 = .ok (.iastore, 1) := by decide +kernel
theorem dc_Q_takeOut_40 : decode cb_Q_takeOut 40 = .ok (.iinc 2 1, 3) := by decide +kernel
theorem dc_Q_takeOut_43 : decode cb_Q_takeOut 43 = .ok (.goto (-39), 3) := by decide +kernel
theorem dc_Q_takeOut_46 : decode cb_Q_takeOut 46 = .ok (.aload_n 0, 1) := by decide +kernel
theorem dc_Q_takeOut_47 : decode cb_Q_takeOut 47 = .ok (.dup, 1) := by decide +kernel
theorem dc_Q_takeOut_48 : decode cb_Q_takeOut 48 = .ok (.getfield 18, 3) := by decide +kernel
theorem dc_Q_takeOut_51 : decode cb_Q_takeOut 51 = .ok (.iconst 1, 1) := by decide +kernel
theorem dc_Q_takeOut_52 : decode cb_Q_takeOut 52 = .ok (.isub, 1) := by decide +kernel
theorem dc_Q_takeOut_53 : decode cb_Q_takeOut 53 = .ok (.putfield 18, 3) := by decide +kernel
theorem dc_Q_takeOut_56 : decode cb_Q_takeOut 56 = .ok (.return_, 1) := by decide +kernel
theorem dc_R_append_0 : decode cb_R_append 0 = .ok (.aload_n 0, 1) := by decide +kernel
theorem dc_R_append_1 : decode cb_R_append 1 = .ok (.getfield 15, 3) := by decide +kernel
theorem dc_R_append_4 : decode cb_R_append 4 = .ok (.iconst 5, 1) := by decide +kernel
theorem dc_R_append_5 : decode cb_R_append 5 = .ok (.if_icmp .ge 23, 3) := by decide +kernel
theorem dc_R_append_8 : decode cb_R_append 8 = .ok (.aload_n 0, 1) := by decide +kernel
theorem dc_R_append_9 : decode cb_R_append 9 = .ok (.getfield 9, 3) := by decide +kernel
theorem dc_R_append_12 : decode cb_R_append 12 = .ok (.aload_n 0, 1) := by decide +kernel
theorem dc_R_append_13 : decode cb_R_append 13 = .ok (.getfield 15, 3) := by decide +kernel
theorem dc_R_append_16 : decode cb_R_append 16 = .ok (.iload_n 1, 1) := by decide +kernel
theorem dc_R_append_17 : decode cb_R_append 17 = .ok (.iastore, 1) := by decide +kernel
theorem dc_R_append_18 : decode cb_R_append 18 = .ok (.aload_n 0, 1) := by decide +kernel
theorem dc_R_append_19 : decode cb_R_append 19 = .ok (.dup, 1) := by decide +kernel
theorem dc_R_append_20 : decode cb_R_append 20 = .ok (.getfield 15, 3) := by decide +kernel
theorem dc_R_append_23 : decode cb_R_append 23 = .ok (.iconst 1, 1) := by decide +kernel
theorem dc_R_append_24 : decode cb_R_append 24 = .ok (.iadd, 1) := by decide +kernel
theorem dc_R_append_25 : decode cb_R_append 25 = .ok (.putfield 15, 3) := by decide +kernel
theorem dc_R_append_28 : decode cb_R_append 28 = .ok (.return_, 1) := by decide +kernel
theorem dc_R_takeOut_0 : decode cb_R_takeOut 0 = .ok (.iconst 0, 1) := by decide +kernel
theorem dc_R_takeOut_1 : decode cb_R_takeOut 1 = .ok (.istore_n 2, 1) := by decide +kernel
theorem dc_R_takeOut_2 : decode cb_R_takeOut 2 = .ok (.iconst 0, 1) := by decide +kernel
theorem dc_R_takeOut_3 : decode cb_R_takeOut 3 = .ok (.istore_n 3, 1) := by decide +kernel
theorem dc_R_takeOut_4 : decode cb_R_takeOut 4 = .ok (.iload_n 3, 1) := by decide +kernel
theorem dc_R_takeOut_5 : decode cb_R_takeOut 5 = .ok (.aload_n 0, 1) := by decide +kernel
theorem dc_R_takeOut_6 : decode cb_R_takeOut 6 = .ok (.getfield 15, 3) := by decide +kernel
theorem dc_R_takeOut_9 : decode cb_R_takeOut 9 = .ok (.if_icmp .ge 34, 3) := by decide +kernel
theorem dc_R_takeOut_12 : decode cb_R_takeOut 12 = .ok (.aload_n 0, 1) := by decide +kernel
theorem dc_R_takeOut_13 : decode cb_R_takeOut 13 = .ok (.getfield 9, 3) := by decide +kernel
theorem dc_R_takeOut_16 : decode cb_R_takeOut 16 = .ok (.iload_n 3, 1) := by decide +kernel
theorem dc_R_takeOut_17 : decode cb_R_takeOut 17 = .ok (.iaload, 1) := by decide +kernel
theorem dc_R_takeOut_18 : decode cb_R_takeOut 18 = .ok (.iload_n 1, 1) := by decide +kernel
theorem dc_R_takeOut_19 : decode cb_R_takeOut 19 = .ok (.if_icmp .eq 18, 3) := by decide +kernel
theorem dc_R_takeOut_22 : decode cb_R_takeOut 22 = .ok (.aload_n 0, 1) := by decide +kernel
theorem dc_R_takeOut_23 : decode cb_R_takeOut 23 = .ok (.getfield 9, 3) := by decide +kernel
theorem dc_R_takeOut_26 : decode cb_R_takeOut 26 = .ok (.iload_n 2, 1) := by decide +kernel
theorem dc_R_takeOut_27 : decode cb_R_takeOut 27 = .ok (.aload_n 0, 1) := by decide +kernel
theorem dc_R_takeOut_28 : decode cb_R_takeOut 28 = .ok (.getfield 9, 3) := by decide +kernel
theorem dc_R_takeOut_31 : decode cb_R_takeOut 31 = .ok (.iload_n 3, 1) := by decide +kernel
theorem dc_R_takeOut_32 : decode cb_R_takeOut 32 = .ok (.iaload, 1) := by decide +kernel
theorem dc_R_takeOut_33 : decode cb_R_takeOut 33 = .ok (.iastore, 1) := by decide +kernel
theorem dc_R_takeOut_34 : decode cb_R_takeOut 34 = .ok (.iinc 2 1, 3) := by decide +kernel
theorem dc_R_takeOut_37 : decode cb_R_takeOut 37 = .ok (.iinc 3 1, 3) := by decide +kernel
theorem dc_R_takeOut_40 : decode cb_R_takeOut 40 = .ok (.goto (-36), 3) := by decide +kernel
theorem dc_R_takeOut_43 : decode cb_R_takeOut 43 = .ok (.aload_n 0, 1) := by decide +kernel
theorem dc_R_takeOut_44 : decode cb_R_takeOut 44 = .ok (.iload_n 2, 1) := by decide +kernel
theorem dc_R_takeOut_45 : decode cb_R_takeOut 45 = .ok (.putfield 15, 3) := by decide +kernel
theorem dc_R_takeOut_48 : decode cb_R_takeOut 48 = .ok (.return_, 1) := by decide +kernel
theorem dc_R_takeFirst_0 : decode cb_R_takeFirst 0 = .ok (.aload_n 0, 1) := by decide +kernel
theorem dc_R_takeFirst_1 : decode cb_R_takeFirst 1 = .ok (.getfield 15, 3) := by decide +kernel
theorem dc_R_takeFirst_4 : decode cb_R_takeFirst 4 = .ok (.ifCond .ne 5, 3) := by decide +kernel
theorem dc_R_takeFirst_7 : decode cb_R_takeFirst 7 = .ok (.iconst (-1), 1) := by decide +kernel
theorem dc_R_takeFirst_8 : decode cb_R_takeFirst 8 = .ok (.ireturn, 1) := by decide +kernel
theorem dc_R_takeFirst_9 : decode cb_R_takeFirst 9 = .ok (.aload_n 0, 1) := by decide +kernel
theorem dc_R_takeFirst_10 : decode cb_R_takeFirst 10 = .ok (.getfield 9, 3) := by decide +kernel
theorem dc_R_takeFirst_13 : decode cb_R_takeFirst 13 = .ok (.iconst 0, 1) := by decide +kernel
theorem dc_R_takeFirst_14 : decode cb_R_takeFirst 14 = .ok (.iaload, 1) := by decide +kernel
theorem dc_R_takeFirst_15 : decode cb_R_takeFirst 15 = .ok (.istore_n 1, 1) := by decide +kernel
theorem dc_R_takeFirst_16 : decode cb_R_takeFirst 16 = .ok (.aload_n 0, 1) := by decide +kernel
theorem dc_R_takeFirst_17 : decode cb_R_takeFirst 17 = .ok (.iload_n 1, 1) := by decide +kernel
theorem dc_R_takeFirst_18 : decode cb_R_takeFirst 18 = .ok (.invokevirtual 19, 3) := by decide +kernel
theorem dc_R_takeFirst_21 : decode cb_R_takeFirst 21 = .ok (.iload_n 1, 1) := by decide +kernel
theorem dc_R_takeFirst_22 : decode cb_R_takeFirst 22 = .ok (.ireturn, 1) := by decide +kernel
theorem dc_M_isOpenTo_0 : decode cb_M_isOpenTo 0 = .ok (.aload_n 0, 1) := by decide +kernel
theorem dc_M_isOpenTo_1 : decode cb_M_isOpenTo 1 = .ok (.getfield 18, 3) := by decide +kernel
theorem dc_M_isOpenTo_4 : decode cb_M_isOpenTo 4 = .ok (.iconst (-1), 1) := by decide +kernel
theorem dc_M_isOpenTo_5 : decode cb_M_isOpenTo 5 = .ok (.if_icmp .eq 11, 3) := by decide +kernel
theorem dc_M_isOpenTo_8 : decode cb_M_isOpenTo 8 = .ok (.aload_n 0, 1) := by decide +kernel
theorem dc_M_isOpenTo_9 : decode cb_M_isOpenTo 9 = .ok (.getfield 18, 3) := by decide +kernel
theorem dc_M_isOpenTo_12 : decode cb_M_isOpenTo 12 = .ok (.iload_n 1, 1) := by decide +kernel
theorem dc_M_isOpenTo_13 : decode cb_M_isOpenTo 13 = .ok (.if_icmp .ne 7, 3) := by decide +kernel
theorem dc_M_isOpenTo_16 : decode cb_M_isOpenTo 16 = .ok (.iconst 1, 1) := by decide +kernel
theorem dc_M_isOpenTo_17 : decode cb_M_isOpenTo 17 = .ok (.goto 4, 3) := by decide +kernel
theorem dc_M_isOpenTo_20 : decode cb_M_isOpenTo 20 = .ok (.iconst 0, 1) := by decide +kernel
theorem dc_M_isOpenTo_21 : decode cb_M_isOpenTo 21 = .ok (.ireturn, 1) := by decide +kernel
theorem dc_M_give_0 : decode cb_M_give 0 = .ok (.aload_n 0, 1) := by decide +kernel
theorem dc_M_give_1 : decode cb_M_give 1 = .ok (.iload_n 1, 1) := by decide +kernel
theorem dc_M_give_2 : decode cb_M_give 2 = .ok (.putfield 18, 3) := by decide +kernel
theorem dc_M_give_5 : decode cb_M_give 5 = .ok (.aload_n 0, 1) := by decide +kernel
theorem dc_M_give_6 : decode cb_M_give 6 = .ok (.dup, 1) := by decide +kernel
theorem dc_M_give_7 : decode cb_M_give 7 = .ok (.getfield 22, 3) := by decide +kernel
theorem dc_M_give_10 : decode cb_M_give 10 = .ok (.iload_n 2, 1) := by decide +kernel
theorem dc_M_give_11 : decode cb_M_give 11 = .ok (.iadd, 1) := by decide +kernel
theorem dc_M_give_12 : decode cb_M_give 12 = .ok (.putfield 22, 3) := by decide +kernel
theorem dc_M_give_15 : decode cb_M_give 15 = .ok (.return_, 1) := by decide +kernel
theorem dc_H_requireBetween_0 : decode cb_H_requireBetween 0 = .ok (.iload_n 0, 1) := by decide +kernel
theorem dc_H_requireBetween_1 : decode cb_H_requireBetween 1 = .ok (.iload_n 1, 1) := by decide +kernel
theorem dc_H_requireBetween_2 : decode cb_H_requireBetween 2 = .ok (.if_icmp .lt 8, 3) := by decide +kernel
theorem dc_H_requireBetween_5 : decode cb_H_requireBetween 5 = .ok (.iload_n 0, 1) := by decide +kernel
theorem dc_H_requireBetween_6 : decode cb_H_requireBetween 6 = .ok (.iload_n 2, 1) := by decide +kernel
theorem dc_H_requireBetween_7 : decode cb_H_requireBetween 7 = .ok (.if_icmp .le 11, 3) := by decide +kernel
theorem dc_H_requireBetween_10 : decode cb_H_requireBetween 10 = .ok (.new 143, 3) := by decide +kernel
theorem dc_H_requireBetween_13 : decode cb_H_requireBetween 13 = .ok (.dup, 1) := by decide +kernel
theorem dc_H_requireBetween_14 : decode cb_H_requireBetween 14 = .ok (.invokespecial 145, 3) := by decide +kernel
theorem dc_H_requireBetween_17 : decode cb_H_requireBetween 17 = .ok (.athrow, 1) := by decide +kernel
theorem dc_H_requireBetween_18 : decode cb_H_requireBetween 18 = .ok (.return_, 1) := by decide +kernel
theorem dc_H_requireBelow_0 : decode cb_H_requireBelow 0 = .ok (.iload_n 0, 1) := by decide +kernel
theorem dc_H_requireBelow_1 : decode cb_H_requireBelow 1 = .ok (.iconst 0, 1) := by decide +kernel
theorem dc_H_requireBelow_2 : decode cb_H_requireBelow 2 = .ok (.iload_n 1, 1) := by decide +kernel
theorem dc_H_requireBelow_3 : decode cb_H_requireBelow 3 = .ok (.iconst 1, 1) := by decide +kernel
theorem dc_H_requireBelow_4 : decode cb_H_requireBelow 4 = .ok (.isub, 1) := by decide +kernel
theorem dc_H_requireBelow_5 : decode cb_H_requireBelow 5 = .ok (.invokestatic 86, 3) := by decide +kernel
theorem dc_H_requireBelow_8 : decode cb_H_requireBelow 8 = .ok (.return_, 1) := by decide +kernel
theorem dc_H_requireOperand_0 : decode cb_H_requireOperand 0 = .ok (.iload_n 1, 1) := by decide +kernel
theorem dc_H_requireOperand_1 : decode cb_H_requireOperand 1 = .ok (.ifCond .le 8, 3) := by decide +kernel
theorem dc_H_requireOperand_4 : decode cb_H_requireOperand 4 = .ok (.iload_n 0, 1) := by decide +kernel
theorem dc_H_requireOperand_5 : decode cb_H_requireOperand 5 = .ok (.iload_n 1, 1) := by decide +kernel
theorem dc_H_requireOperand_6 : decode cb_H_requireOperand 6 = .ok (.invokestatic 46, 3) := by decide +kernel
theorem dc_H_requireOperand_9 : decode cb_H_requireOperand 9 = .ok (.return_, 1) := by decide +kernel
theorem dc_H_requireNotAlive_0 : decode cb_H_requireNotAlive 0 = .ok (.aload_n 0, 1) := by decide +kernel
theorem dc_H_requireNotAlive_1 : decode cb_H_requireNotAlive 1 = .ok (.invokevirtual 79, 3) := by decide +kernel
theorem dc_H_requireNotAlive_4 : decode cb_H_requireNotAlive 4 = .ok (.ifCond .eq 11, 3) := by decide +kernel
theorem dc_H_requireNotAlive_7 : decode cb_H_requireNotAlive 7 = .ok (.new 173, 3) := by decide +kernel
theorem dc_H_requireNotAlive_10 : decode cb_H_requireNotAlive 10 = .ok (.dup, 1) := by decide +kernel
theorem dc_H_requireNotAlive_11 : decode cb_H_requireNotAlive 11 = .ok (.invokespecial 175, 3) := by decide +kernel
theorem dc_H_requireNotAlive_14 : decode cb_H_requireNotAlive 14 = .ok (.athrow, 1) := by decide +kernel
theorem dc_H_requireNotAlive_15 : decode cb_H_requireNotAlive 15 = .ok (.return_, 1) := by decide +kernel
theorem dc_H_aliveCount_0 : decode cb_H_aliveCount 0 = .ok (.iconst 0, 1) := by decide +kernel
theorem dc_H_aliveCount_1 : decode cb_H_aliveCount 1 = .ok (.istore_n 1, 1) := by decide +kernel
theorem dc_H_aliveCount_2 : decode cb_H_aliveCount 2 = .ok (.iconst 0, 1) := by decide +kernel
theorem dc_H_aliveCount_3 : decode cb_H_aliveCount 3 = .ok (.istore_n 2, 1) := by decide +kernel
theorem dc_H_aliveCount_4 : decode cb_H_aliveCount 4 = .ok (.iload_n 2, 1) := by decide +kernel
theorem dc_H_aliveCount_5 : decode cb_H_aliveCount 5 = .ok (.iconst 5, 1) := by decide +kernel
theorem dc_H_aliveCount_6 : decode cb_H_aliveCount 6 = .ok (.if_icmp .ge 24, 3) := by decide +kernel
theorem dc_H_aliveCount_9 : decode cb_H_aliveCount 9 = .ok (.aload_n 0, 1) := by decide +kernel
theorem dc_H_aliveCount_10 : decode cb_H_aliveCount 10 = .ok (.getfield 11, 3) := by decide +kernel
theorem dc_H_aliveCount_13 : decode cb_H_aliveCount 13 = .ok (.iload_n 2, 1) := by decide +kernel
theorem dc_H_aliveCount_14 : decode cb_H_aliveCount 14 = .ok (.aaload, 1) := by decide +kernel
theorem dc_H_aliveCount_15 : decode cb_H_aliveCount 15 = .ok (.invokevirtual 79, 3) := by decide +kernel
theorem dc_H_aliveCount_18 : decode cb_H_aliveCount 18 = .ok (.ifCond .eq 6, 3) := by decide +kernel
theorem dc_H_aliveCount_21 : decode cb_H_aliveCount 21 = .ok (.iinc 1 1, 3) := by decide +kernel
theorem dc_H_aliveCount_24 : decode cb_H_aliveCount 24 = .ok (.iinc 2 1, 3) := by decide +kernel
theorem dc_H_aliveCount_27 : decode cb_H_aliveCount 27 = .ok (.goto (-23), 3) := by decide +kernel
theorem dc_H_aliveCount_30 : decode cb_H_aliveCount 30 = .ok (.iload_n 1, 1) := by decide +kernel
theorem dc_H_aliveCount_31 : decode cb_H_aliveCount 31 = .ok (.ireturn, 1) := by decide +kernel
theorem dc_H_readyCount_0 : decode cb_H_readyCount 0 = .ok (.iconst 0, 1) := by decide +kernel
theorem dc_H_readyCount_1 : decode cb_H_readyCount 1 = .ok (.istore_n 1, 1) := by decide +kernel
theorem dc_H_readyCount_2 : decode cb_H_readyCount 2 = .ok (.iconst 0, 1) := by decide +kernel
theorem dc_H_readyCount_3 : decode cb_H_readyCount 3 = .ok (.istore_n 2, 1) := by decide +kernel
theorem dc_H_readyCount_4 : decode cb_H_readyCount 4 = .ok (.iload_n 2, 1) := by decide +kernel
theorem dc_H_readyCount_5 : decode cb_H_readyCount 5 = .ok (.iconst 5, 1) := by decide +kernel
theorem dc_H_readyCount_6 : decode cb_H_readyCount 6 = .ok (.if_icmp .ge 25, 3) := by decide +kernel
theorem dc_H_readyCount_9 : decode cb_H_readyCount 9 = .ok (.aload_n 0, 1) := by decide +kernel
theorem dc_H_readyCount_10 : decode cb_H_readyCount 10 = .ok (.getfield 11, 3) := by decide +kernel
theorem dc_H_readyCount_13 : decode cb_H_readyCount 13 = .ok (.iload_n 2, 1) := by decide +kernel
theorem dc_H_readyCount_14 : decode cb_H_readyCount 14 = .ok (.aaload, 1) := by decide +kernel
theorem dc_H_readyCount_15 : decode cb_H_readyCount 15 = .ok (.getfield 106, 3) := by decide +kernel
theorem dc_H_readyCount_18 : decode cb_H_readyCount 18 = .ok (.iconst 1, 1) := by decide +kernel
theorem dc_H_readyCount_19 : decode cb_H_readyCount 19 = .ok (.if_icmp .ne 6, 3) := by decide +kernel
theorem dc_H_readyCount_22 : decode cb_H_readyCount 22 = .ok (.iinc 1 1, 3) := by decide +kernel
theorem dc_H_readyCount_25 : decode cb_H_readyCount 25 = .ok (.iinc 2 1, 3) := by decide +kernel
theorem dc_H_readyCount_28 : decode cb_H_readyCount 28 = .ok (.goto (-24), 3) := by decide +kernel
theorem dc_H_readyCount_31 : decode cb_H_readyCount 31 = .ok (.iload_n 1, 1) := by decide +kernel
theorem dc_H_readyCount_32 : decode cb_H_readyCount 32 = .ok (.ireturn, 1) := by decide +kernel
theorem dc_H_nextReady_0 : decode cb_H_nextReady 0 = .ok (.iconst 1, 1) := by decide +kernel
theorem dc_H_nextReady_1 : decode cb_H_nextReady 1 = .ok (.istore_n 1, 1) := by decide +kernel
theorem dc_H_nextReady_2 : decode cb_H_nextReady 2 = .ok (.iload_n 1, 1) := by decide +kernel
theorem dc_H_nextReady_3 : decode cb_H_nextReady 3 = .ok (.iconst 5, 1) := by decide +kernel
theorem dc_H_nextReady_4 : decode cb_H_nextReady 4 = .ok (.if_icmp .gt 33, 3) := by decide +kernel
theorem dc_H_nextReady_7 : decode cb_H_nextReady 7 = .ok (.aload_n 0, 1) := by decide +kernel
theorem dc_H_nextReady_8 : decode cb_H_nextReady 8 = .ok (.getfield 43, 3) := by decide +kernel
theorem dc_H_nextReady_11 : decode cb_H_nextReady 11 = .ok (.iload_n 1, 1) := by decide +kernel
theorem dc_H_nextReady_12 : decode cb_H_nextReady 12 = .ok (.iadd, 1) := by decide +kernel
theorem dc_H_nextReady_13 : decode cb_H_nextReady 13 = .ok (.iconst 5, 1) := by decide +kernel
theorem dc_H_nextReady_14 : decode cb_H_nextReady 14 = .ok (.irem, 1) := by decide +kernel
theorem dc_H_nextReady_15 : decode cb_H_nextReady 15 = .ok (.istore_n 2, 1) := by decide +kernel
theorem dc_H_nextReady_16 : decode cb_H_nextReady 16 = .ok (.aload_n 0, 1) := by decide +kernel
theorem dc_H_nextReady_17 : decode cb_H_nextReady 17 = .ok (.getfield 11, 3) := by decide +kernel
theorem dc_H_nextReady_20 : decode cb_H_nextReady 20 = .ok (.iload_n 2, 1) := by decide +kernel
theorem dc_H_nextReady_21 : decode cb_H_nextReady 21 = .ok (.aaload, 1) := by decide +kernel
theorem dc_H_nextReady_22 : decode cb_H_nextReady 22 = .ok (.getfield 106, 3) := by decide +kernel
theorem dc_H_nextReady_25 : decode cb_H_nextReady 25 = .ok (.iconst 1, 1) := by decide +kernel
theorem dc_H_nextReady_26 : decode cb_H_nextReady 26 = .ok (.if_icmp .ne 5, 3) := by decide +kernel
theorem dc_H_nextReady_29 : decode cb_H_nextReady 29 = .ok (.iload_n 2, 1) := by decide +kernel
theorem dc_H_nextReady_30 : decode cb_H_nextReady 30 = .ok (.ireturn, 1) := by decide +kernel
theorem dc_H_nextReady_31 : decode cb_H_nextReady 31 = .ok (.iinc 1 1, 3) := by decide +kernel
theorem dc_H_nextReady_34 : decode cb_H_nextReady 34 = .ok (.goto (-32), 3) := by decide +kernel
theorem dc_H_nextReady_37 : decode cb_H_nextReady 37 = .ok (.iconst (-1), 1) := by decide +kernel
theorem dc_H_nextReady_38 : decode cb_H_nextReady 38 = .ok (.ireturn, 1) := by decide +kernel
theorem dc_H_countInstruction_0 : decode cb_H_countInstruction 0 = .ok (.aload_n 1, 1) := by decide +kernel
theorem dc_H_countInstruction_1 : decode cb_H_countInstruction 1 = .ok (.dup, 1) := by decide +kernel
theorem dc_H_countInstruction_2 : decode cb_H_countInstruction 2 = .ok (.getfield 109, 3) := by decide +kernel
theorem dc_H_countInstruction_5 : decode cb_H_countInstruction 5 = .ok (.iconst 1, 1) := by decide +kernel
theorem dc_H_countInstruction_6 : decode cb_H_countInstruction 6 = .ok (.iadd, 1) := by decide +kernel
theorem dc_H_countInstruction_7 : decode cb_H_countInstruction 7 = .ok (.putfield 109, 3) := by decide +kernel
theorem dc_H_countInstruction_10 : decode cb_H_countInstruction 10 = .ok (.aload_n 1, 1) := by decide +kernel
theorem dc_H_countInstruction_11 : decode cb_H_countInstruction 11 = .ok (.dup, 1) := by decide +kernel
theorem dc_H_countInstruction_12 : decode cb_H_countInstruction 12 = .ok (.getfield 132, 3) := by decide +kernel
theorem dc_H_countInstruction_15 : decode cb_H_countInstruction 15 = .ok (.iconst 1, 1) := by decide +kernel
theorem dc_H_countInstruction_16 : decode cb_H_countInstruction 16 = .ok (.iadd, 1) := by decide +kernel
theorem dc_H_countInstruction_17 : decode cb_H_countInstruction 17 = .ok (.putfield 132, 3) := by decide +kernel
theorem dc_H_countInstruction_20 : decode cb_H_countInstruction 20 = .ok (.aload_n 0, 1) := by decide +kernel
theorem dc_H_countInstruction_21 : decode cb_H_countInstruction 21 = .ok (.dup, 1) := by decide +kernel
theorem dc_H_countInstruction_22 : decode cb_H_countInstruction 22 = .ok (.getfield 89, 3) := by decide +kernel
theorem dc_H_countInstruction_25 : decode cb_H_countInstruction 25 = .ok (.iconst 1, 1) := by decide +kernel
theorem dc_H_countInstruction_26 : decode cb_H_countInstruction 26 = .ok (.iadd, 1) := by decide +kernel
theorem dc_H_countInstruction_27 : decode cb_H_countInstruction 27 = .ok (.putfield 89, 3) := by decide +kernel
theorem dc_H_countInstruction_30 : decode cb_H_countInstruction 30 = .ok (.return_, 1) := by decide +kernel
theorem dc_H_read_0 : decode cb_H_read 0 = .ok (.aload_n 1, 1) := by decide +kernel
theorem dc_H_read_1 : decode cb_H_read 1 = .ok (.getfield 115, 3) := by decide +kernel
theorem dc_H_read_4 : decode cb_H_read 4 = .ok (.iload_n 2, 1) := by decide +kernel
theorem dc_H_read_5 : decode cb_H_read 5 = .ok (.invokevirtual 251, 3) := by decide +kernel
theorem dc_H_read_8 : decode cb_H_read 8 = .ok (.istore_n 3, 1) := by decide +kernel
theorem dc_H_read_9 : decode cb_H_read 9 = .ok (.iload_n 3, 1) := by decide +kernel
theorem dc_H_read_10 : decode cb_H_read 10 = .ok (.iconst (-1), 1) := by decide +kernel
theorem dc_H_read_11 : decode cb_H_read 11 = .ok (.if_icmp .ne 12, 3) := by decide +kernel
theorem dc_H_read_14 : decode cb_H_read 14 = .ok (.aload_n 0, 1) := by decide +kernel
theorem dc_H_read_15 : decode cb_H_read 15 = .ok (.getfield 32, 3) := by decide +kernel
theorem dc_H_read_18 : decode cb_H_read 18 = .ok (.iload_n 2, 1) := by decide +kernel
theorem dc_H_read_19 : decode cb_H_read 19 = .ok (.iaload, 1) := by decide +kernel
theorem dc_H_read_20 : decode cb_H_read 20 = .ok (.goto 12, 3) := by decide +kernel
theorem dc_H_read_23 : decode cb_H_read 23 = .ok (.aload_n 1, 1) := by decide +kernel
theorem dc_H_read_24 : decode cb_H_read 24 = .ok (.getfield 115, 3) := by decide +kernel
theorem dc_H_read_27 : decode cb_H_read 27 = .ok (.getfield 255, 3) := by decide +kernel
theorem dc_H_read_30 : decode cb_H_read 30 = .ok (.iload_n 3, 1) := by decide +kernel
theorem dc_H_read_31 : decode cb_H_read 31 = .ok (.iaload, 1) := by decide +kernel
theorem dc_H_read_32 : decode cb_H_read 32 = .ok (.ireturn, 1) := by decide +kernel
theorem dc_H_write_0 : decode cb_H_write 0 = .ok (.aload_n 1, 1) := by decide +kernel
theorem dc_H_write_1 : decode cb_H_write 1 = .ok (.getfield 115, 3) := by decide +kernel
theorem dc_H_write_4 : decode cb_H_write 4 = .ok (.iload_n 2, 1) := by decide +kernel
theorem dc_H_write_5 : decode cb_H_write 5 = .ok (.invokevirtual 251, 3) := by decide +kernel
theorem dc_H_write_8 : decode cb_H_write 8 = .ok (.istore 4, 2) := by decide +kernel
theorem dc_H_write_10 : decode cb_H_write 10 = .ok (.iload 4, 2) := by decide +kernel
theorem dc_H_write_12 : decode cb_H_write 12 = .ok (.iconst (-1), 1) := by decide +kernel
theorem dc_H_write_13 : decode cb_H_write 13 = .ok (.if_icmp .ne 13, 3) := by decide +kernel
theorem dc_H_write_16 : decode cb_H_write 16 = .ok (.aload_n 0, 1) := by decide +kernel
theorem dc_H_write_17 : decode cb_H_write 17 = .ok (.getfield 32, 3) := by decide +kernel
theorem dc_H_write_20 : decode cb_H_write 20 = .ok (.iload_n 2, 1) := by decide +kernel
theorem dc_H_write_21 : decode cb_H_write 21 = .ok (.iload_n 3, 1) := by decide +kernel
theorem dc_H_write_22 : decode cb_H_write 22 = .ok (.iastore, 1) := by decide +kernel
theorem dc_H_write_23 : decode cb_H_write 23 = .ok (.goto 14, 3) := by decide +kernel
theorem dc_H_write_26 : decode cb_H_write 26 = .ok (.aload_n 1, 1) := by decide +kernel
theorem dc_H_write_27 : decode cb_H_write 27 = .ok (.getfield 115, 3) := by decide +kernel
theorem dc_H_write_30 : decode cb_H_write 30 = .ok (.getfield 255, 3) := by decide +kernel
theorem dc_H_write_33 : decode cb_H_write 33 = .ok (.iload 4, 2) := by decide +kernel
theorem dc_H_write_35 : decode cb_H_write 35 = .ok (.iload_n 3, 1) := by decide +kernel
theorem dc_H_write_36 : decode cb_H_write 36 = .ok (.iastore, 1) := by decide +kernel
theorem dc_H_write_37 : decode cb_H_write 37 = .ok (.return_, 1) := by decide +kernel
theorem dc_H_bind_0 : decode cb_H_bind 0 = .ok (.aload_n 0, 1) := by decide +kernel
theorem dc_H_bind_1 : decode cb_H_bind 1 = .ok (.getfield 115, 3) := by decide +kernel
theorem dc_H_bind_4 : decode cb_H_bind 4 = .ok (.invokevirtual 258, 3) := by decide +kernel
theorem dc_H_bind_7 : decode cb_H_bind 7 = .ok (.ifCond .eq 5, 3) := by decide +kernel
theorem dc_H_bind_10 : decode cb_H_bind 10 = .ok (.iconst 1, 1) := by decide +kernel
theorem dc_H_bind_11 : decode cb_H_bind 11 = .ok (.ireturn, 1) := by decide +kernel
theorem dc_H_bind_12 : decode cb_H_bind 12 = .ok (.aload_n 0, 1) := by decide +kernel
theorem dc_H_bind_13 : decode cb_H_bind 13 = .ok (.getfield 115, 3) := by decide +kernel
theorem dc_H_bind_16 : decode cb_H_bind 16 = .ok (.iload_n 1, 1) := by decide +kernel
theorem dc_H_bind_17 : decode cb_H_bind 17 = .ok (.iload_n 2, 1) := by decide +kernel
theorem dc_H_bind_18 : decode cb_H_bind 18 = .ok (.invokevirtual 261, 3) := by decide +kernel
theorem dc_H_bind_21 : decode cb_H_bind 21 = .ok (.iconst 0, 1) := by decide +kernel
theorem dc_H_bind_22 : decode cb_H_bind 22 = .ok (.ireturn, 1) := by decide +kernel
theorem dc_H_unbind_0 : decode cb_H_unbind 0 = .ok (.aload_n 0, 1) := by decide +kernel
theorem dc_H_unbind_1 : decode cb_H_unbind 1 = .ok (.getfield 115, 3) := by decide +kernel
theorem dc_H_unbind_4 : decode cb_H_unbind 4 = .ok (.iload_n 1, 1) := by decide +kernel
theorem dc_H_unbind_5 : decode cb_H_unbind 5 = .ok (.invokevirtual 251, 3) := by decide +kernel
theorem dc_H_unbind_8 : decode cb_H_unbind 8 = .ok (.istore_n 2, 1) := by decide +kernel
theorem dc_H_unbind_9 : decode cb_H_unbind 9 = .ok (.iload_n 2, 1) := by decide +kernel
theorem dc_H_unbind_10 : decode cb_H_unbind 10 = .ok (.iconst (-1), 1) := by decide +kernel
theorem dc_H_unbind_11 : decode cb_H_unbind 11 = .ok (.if_icmp .ne 5, 3) := by decide +kernel
theorem dc_H_unbind_14 : decode cb_H_unbind 14 = .ok (.iconst 2, 1) := by decide +kernel
theorem dc_H_unbind_15 : decode cb_H_unbind 15 = .ok (.ireturn, 1) := by decide +kernel
theorem dc_H_unbind_16 : decode cb_H_unbind 16 = .ok (.aload_n 0, 1) := by decide +kernel
theorem dc_H_unbind_17 : decode cb_H_unbind 17 = .ok (.getfield 115, 3) := by decide +kernel
theorem dc_H_unbind_20 : decode cb_H_unbind 20 = .ok (.iload_n 2, 1) := by decide +kernel
theorem dc_H_unbind_21 : decode cb_H_unbind 21 = .ok (.invokevirtual 263, 3) := by decide +kernel
theorem dc_H_unbind_24 : decode cb_H_unbind 24 = .ok (.iconst 0, 1) := by decide +kernel
theorem dc_H_unbind_25 : decode cb_H_unbind 25 = .ok (.ireturn, 1) := by decide +kernel
theorem dc_H_hook_0 : decode cb_H_hook 0 = .ok (.aload_n 0, 1) := by decide +kernel
theorem dc_H_hook_1 : decode cb_H_hook 1 = .ok (.getfield 122, 3) := by decide +kernel
theorem dc_H_hook_4 : decode cb_H_hook 4 = .ok (.invokevirtual 258, 3) := by decide +kernel
theorem dc_H_hook_7 : decode cb_H_hook 7 = .ok (.ifCond .eq 6, 3) := by decide +kernel
theorem dc_H_hook_10 : decode cb_H_hook 10 = .ok (.bipush 6, 2) := by decide +kernel
theorem dc_H_hook_12 : decode cb_H_hook 12 = .ok (.ireturn, 1) := by decide +kernel
theorem dc_H_hook_13 : decode cb_H_hook 13 = .ok (.aload_n 0, 1) := by decide +kernel
theorem dc_H_hook_14 : decode cb_H_hook 14 = .ok (.getfield 122, 3) := by decide +kernel
theorem dc_H_hook_17 : decode cb_H_hook 17 = .ok (.iload_n 1, 1) := by decide +kernel
theorem dc_H_hook_18 : decode cb_H_hook 18 = .ok (.iload_n 2, 1) := by decide +kernel
theorem dc_H_hook_19 : decode cb_H_hook 19 = .ok (.invokevirtual 261, 3) := by decide +kernel
theorem dc_H_hook_22 : decode cb_H_hook 22 = .ok (.iconst 0, 1) := by decide +kernel
theorem dc_H_hook_23 : decode cb_H_hook 23 = .ok (.ireturn, 1) := by decide +kernel
theorem dc_H_jumpIfZero_0 : decode cb_H_jumpIfZero 0 = .ok (.aload_n 0, 1) := by decide +kernel
theorem dc_H_jumpIfZero_1 : decode cb_H_jumpIfZero 1 = .ok (.aload_n 1, 1) := by decide +kernel
theorem dc_H_jumpIfZero_2 : decode cb_H_jumpIfZero 2 = .ok (.iload_n 2, 1) := by decide +kernel
theorem dc_H_jumpIfZero_3 : decode cb_H_jumpIfZero 3 = .ok (.invokevirtual 102, 3) := by decide +kernel
theorem dc_H_jumpIfZero_6 : decode cb_H_jumpIfZero 6 = .ok (.ifCond .ne 8, 3) := by decide +kernel
theorem dc_H_jumpIfZero_9 : decode cb_H_jumpIfZero 9 = .ok (.aload_n 1, 1) := by decide +kernel
theorem dc_H_jumpIfZero_10 : decode cb_H_jumpIfZero 10 = .ok (.iload_n 3, 1) := by decide +kernel
theorem dc_H_jumpIfZero_11 : decode cb_H_jumpIfZero 11 = .ok (.putfield 109, 3) := by decide +kernel
theorem dc_H_jumpIfZero_14 : decode cb_H_jumpIfZero 14 = .ok (.return_, 1) := by decide +kernel
theorem dc_H_keepSaid_0 : decode cb_H_keepSaid 0 = .ok (.aload_n 0, 1) := by decide +kernel
theorem dc_H_keepSaid_1 : decode cb_H_keepSaid 1 = .ok (.getfield 155, 3) := by decide +kernel
theorem dc_H_keepSaid_4 : decode cb_H_keepSaid 4 = .ok (.bipush 40, 2) := by decide +kernel
theorem dc_H_keepSaid_6 : decode cb_H_keepSaid 6 = .ok (.if_icmp .ge 13, 3) := by decide +kernel
theorem dc_H_keepSaid_9 : decode cb_H_keepSaid 9 = .ok (.aload_n 0, 1) := by decide +kernel
theorem dc_H_keepSaid_10 : decode cb_H_keepSaid 10 = .ok (.getfield 36, 3) := by decide +kernel
theorem dc_H_keepSaid_13 : decode cb_H_keepSaid 13 = .ok (.aload_n 0, 1) := by decide +kernel
theorem dc_H_keepSaid_14 : decode cb_H_keepSaid 14 = .ok (.getfield 155, 3) := by decide +kernel
theorem dc_H_keepSaid_17 : decode cb_H_keepSaid 17 = .ok (.iload_n 1, 1) := by decide +kernel
theorem dc_H_keepSaid_18 : decode cb_H_keepSaid 18 = .ok (.iastore, 1) := by decide +kernel
theorem dc_H_keepSaid_19 : decode cb_H_keepSaid 19 = .ok (.aload_n 0, 1) := by decide +kernel
theorem dc_H_keepSaid_20 : decode cb_H_keepSaid 20 = .ok (.dup, 1) := by decide +kernel
theorem dc_H_keepSaid_21 : decode cb_H_keepSaid 21 = .ok (.getfield 155, 3) := by decide +kernel
theorem dc_H_keepSaid_24 : decode cb_H_keepSaid 24 = .ok (.iconst 1, 1) := by decide +kernel
theorem dc_H_keepSaid_25 : decode cb_H_keepSaid 25 = .ok (.iadd, 1) := by decide +kernel
theorem dc_H_keepSaid_26 : decode cb_H_keepSaid 26 = .ok (.putfield 155, 3) := by decide +kernel
theorem dc_H_keepSaid_29 : decode cb_H_keepSaid 29 = .ok (.return_, 1) := by decide +kernel
theorem dc_H_goFor_0 : decode cb_H_goFor 0 = .ok (.aload_n 0, 1) := by decide +kernel
theorem dc_H_goFor_1 : decode cb_H_goFor 1 = .ok (.getfield 20, 3) := by decide +kernel
theorem dc_H_goFor_4 : decode cb_H_goFor 4 = .ok (.iload_n 2, 1) := by decide +kernel
theorem dc_H_goFor_5 : decode cb_H_goFor 5 = .ok (.aaload, 1) := by decide +kernel
theorem dc_H_goFor_6 : decode cb_H_goFor 6 = .ok (.astore 4, 2) := by decide +kernel
theorem dc_H_goFor_8 : decode cb_H_goFor 8 = .ok (.aload 4, 2) := by decide +kernel
theorem dc_H_goFor_10 : decode cb_H_goFor 10 = .ok (.aload_n 1, 1) := by decide +kernel
theorem dc_H_goFor_11 : decode cb_H_goFor 11 = .ok (.getfield 176, 3) := by decide +kernel
theorem dc_H_goFor_14 : decode cb_H_goFor 14 = .ok (.invokevirtual 266, 3) := by decide +kernel
theorem dc_H_goFor_17 : decode cb_H_goFor 17 = .ok (.ifCond .eq 21, 3) := by decide +kernel
theorem dc_H_goFor_20 : decode cb_H_goFor 20 = .ok (.aload 4, 2) := by decide +kernel
theorem dc_H_goFor_22 : decode cb_H_goFor 22 = .ok (.aload_n 1, 1) := by decide +kernel
theorem dc_H_goFor_23 : decode cb_H_goFor 23 = .ok (.getfield 176, 3) := by decide +kernel
theorem dc_H_goFor_26 : decode cb_H_goFor 26 = .ok (.iload_n 3, 1) := by decide +kernel
theorem dc_H_goFor_27 : decode cb_H_goFor 27 = .ok (.invokevirtual 270, 3) := by decide +kernel
theorem dc_H_goFor_30 : decode cb_H_goFor 30 = .ok (.aload_n 1, 1) := by decide +kernel
theorem dc_H_goFor_31 : decode cb_H_goFor 31 = .ok (.iconst 1, 1) := by decide +kernel
theorem dc_H_goFor_32 : decode cb_H_goFor 32 = .ok (.putfield 106, 3) := by decide +kernel
theorem dc_H_goFor_35 : decode cb_H_goFor 35 = .ok (.goto 25, 3) := by decide +kernel
theorem dc_H_goFor_38 : decode cb_H_goFor 38 = .ok (.aload_n 1, 1) := by decide +kernel
theorem dc_H_goFor_39 : decode cb_H_goFor 39 = .ok (.iload_n 3, 1) := by decide +kernel
theorem dc_H_goFor_40 : decode cb_H_goFor 40 = .ok (.putfield 273, 3) := by decide +kernel
theorem dc_H_goFor_43 : decode cb_H_goFor 43 = .ok (.aload_n 1, 1) := by decide +kernel
theorem dc_H_goFor_44 : decode cb_H_goFor 44 = .ok (.iconst 2, 1) := by decide +kernel
theorem dc_H_goFor_45 : decode cb_H_goFor 45 = .ok (.putfield 106, 3) := by decide +kernel
theorem dc_H_goFor_48 : decode cb_H_goFor 48 = .ok (.aload 4, 2) := by decide +kernel
theorem dc_H_goFor_50 : decode cb_H_goFor 50 = .ok (.getfield 152, 3) := by decide +kernel
theorem dc_H_goFor_53 : decode cb_H_goFor 53 = .ok (.aload_n 1, 1) := by decide +kernel
theorem dc_H_goFor_54 : decode cb_H_goFor 54 = .ok (.getfield 176, 3) := by decide +kernel
theorem dc_H_goFor_57 : decode cb_H_goFor 57 = .ok (.invokevirtual 276, 3) := by decide +kernel
theorem dc_H_goFor_60 : decode cb_H_goFor 60 = .ok (.return_, 1) := by decide +kernel
theorem dc_H_passOn_0 : decode cb_H_passOn 0 = .ok (.aload_n 1, 1) := by decide +kernel
theorem dc_H_passOn_1 : decode cb_H_passOn 1 = .ok (.iconst (-1), 1) := by decide +kernel
theorem dc_H_passOn_2 : decode cb_H_passOn 2 = .ok (.putfield 146, 3) := by decide +kernel
theorem dc_H_passOn_5 : decode cb_H_passOn 5 = .ok (.aload_n 1, 1) := by decide +kernel
theorem dc_H_passOn_6 : decode cb_H_passOn 6 = .ok (.iconst 0, 1) := by decide +kernel
theorem dc_H_passOn_7 : decode cb_H_passOn 7 = .ok (.putfield 149, 3) := by decide +kernel
theorem dc_H_passOn_10 : decode cb_H_passOn 10 = .ok (.aload_n 1, 1) := by decide +kernel
theorem dc_H_passOn_11 : decode cb_H_passOn 11 = .ok (.getfield 152, 3) := by decide +kernel
theorem dc_H_passOn_14 : decode cb_H_passOn 14 = .ok (.invokevirtual 282, 3) := by decide +kernel
theorem dc_H_passOn_17 : decode cb_H_passOn 17 = .ok (.istore_n 2, 1) := by decide +kernel
theorem dc_H_passOn_18 : decode cb_H_passOn 18 = .ok (.iload_n 2, 1) := by decide +kernel
theorem dc_H_passOn_19 : decode cb_H_passOn 19 = .ok (.iconst (-1), 1) := by decide +kernel
theorem dc_H_passOn_20 : decode cb_H_passOn 20 = .ok (.if_icmp .eq 27, 3) := by decide +kernel
theorem dc_H_passOn_23 : decode cb_H_passOn 23 = .ok (.aload_n 1, 1) := by decide +kernel
theorem dc_H_passOn_24 : decode cb_H_passOn 24 = .ok (.iload_n 2, 1) := by decide +kernel
theorem dc_H_passOn_25 : decode cb_H_passOn 25 = .ok (.aload_n 0, 1) := by decide +kernel
theorem dc_H_passOn_26 : decode cb_H_passOn 26 = .ok (.getfield 11, 3) := by decide +kernel
theorem dc_H_passOn_29 : decode cb_H_passOn 29 = .ok (.iload_n 2, 1) := by decide +kernel
theorem dc_H_passOn_30 : decode cb_H_passOn 30 = .ok (.aaload, 1) := by decide +kernel
theorem dc_H_passOn_31 : decode cb_H_passOn 31 = .ok (.getfield 273, 3) := by decide +kernel
theorem dc_H_passOn_34 : decode cb_H_passOn 34 = .ok (.invokevirtual 270, 3) := by decide +kernel
theorem dc_H_passOn_37 : decode cb_H_passOn 37 = .ok (.aload_n 0, 1) := by decide +kernel
theorem dc_H_passOn_38 : decode cb_H_passOn 38 = .ok (.getfield 11, 3) := by decide +kernel
theorem dc_H_passOn_41 : decode cb_H_passOn 41 = .ok (.iload_n 2, 1) := by decide +kernel
theorem dc_H_passOn_42 : decode cb_H_passOn 42 = .ok (.aaload, 1) := by decide +kernel
theorem dc_H_passOn_43 : decode cb_H_passOn 43 = .ok (.iconst 1, 1) := by decide +kernel
theorem dc_H_passOn_44 : decode cb_H_passOn 44 = .ok (.putfield 106, 3) := by decide +kernel
theorem dc_H_passOn_47 : decode cb_H_passOn 47 = .ok (.return_, 1) := by decide +kernel
theorem dc_H_unlock_0 : decode cb_H_unlock 0 = .ok (.aload_n 0, 1) := by decide +kernel
theorem dc_H_unlock_1 : decode cb_H_unlock 1 = .ok (.getfield 20, 3) := by decide +kernel
theorem dc_H_unlock_4 : decode cb_H_unlock 4 = .ok (.iload_n 2, 1) := by decide +kernel
theorem dc_H_unlock_5 : decode cb_H_unlock 5 = .ok (.aaload, 1) := by decide +kernel
theorem dc_H_unlock_6 : decode cb_H_unlock 6 = .ok (.astore_n 3, 1) := by decide +kernel
theorem dc_H_unlock_7 : decode cb_H_unlock 7 = .ok (.aload_n 3, 1) := by decide +kernel
theorem dc_H_unlock_8 : decode cb_H_unlock 8 = .ok (.getfield 146, 3) := by decide +kernel
theorem dc_H_unlock_11 : decode cb_H_unlock 11 = .ok (.aload_n 1, 1) := by decide +kernel
theorem dc_H_unlock_12 : decode cb_H_unlock 12 = .ok (.getfield 176, 3) := by decide +kernel
theorem dc_H_unlock_15 : decode cb_H_unlock 15 = .ok (.if_icmp .eq 5, 3) := by decide +kernel
theorem dc_H_unlock_18 : decode cb_H_unlock 18 = .ok (.iconst 3, 1) := by decide +kernel
theorem dc_H_unlock_19 : decode cb_H_unlock 19 = .ok (.ireturn, 1) := by decide +kernel
theorem dc_H_unlock_20 : decode cb_H_unlock 20 = .ok (.aload_n 3, 1) := by decide +kernel
theorem dc_H_unlock_21 : decode cb_H_unlock 21 = .ok (.dup, 1) := by decide +kernel
theorem dc_H_unlock_22 : decode cb_H_unlock 22 = .ok (.getfield 149, 3) := by decide +kernel
theorem dc_H_unlock_25 : decode cb_H_unlock 25 = .ok (.iconst 1, 1) := by decide +kernel
theorem dc_H_unlock_26 : decode cb_H_unlock 26 = .ok (.isub, 1) := by decide +kernel
theorem dc_H_unlock_27 : decode cb_H_unlock 27 = .ok (.putfield 149, 3) := by decide +kernel
theorem dc_H_unlock_30 : decode cb_H_unlock 30 = .ok (.aload_n 3, 1) := by decide +kernel
theorem dc_H_unlock_31 : decode cb_H_unlock 31 = .ok (.getfield 149, 3) := by decide +kernel
theorem dc_H_unlock_34 : decode cb_H_unlock 34 = .ok (.ifCond .ne 8, 3) := by decide +kernel
theorem dc_H_unlock_37 : decode cb_H_unlock 37 = .ok (.aload_n 0, 1) := by decide +kernel
theorem dc_H_unlock_38 : decode cb_H_unlock 38 = .ok (.aload_n 3, 1) := by decide +kernel
theorem dc_H_unlock_39 : decode cb_H_unlock 39 = .ok (.invokevirtual 278, 3) := by decide +kernel
theorem dc_H_unlock_42 : decode cb_H_unlock 42 = .ok (.iconst 0, 1) := by decide +kernel
theorem dc_H_unlock_43 : decode cb_H_unlock 43 = .ok (.ireturn, 1) := by decide +kernel
theorem dc_H_tryLock_0 : decode cb_H_tryLock 0 = .ok (.aload_n 0, 1) := by decide +kernel
theorem dc_H_tryLock_1 : decode cb_H_tryLock 1 = .ok (.getfield 20, 3) := by decide +kernel
theorem dc_H_tryLock_4 : decode cb_H_tryLock 4 = .ok (.iload_n 2, 1) := by decide +kernel
theorem dc_H_tryLock_5 : decode cb_H_tryLock 5 = .ok (.aaload, 1) := by decide +kernel
theorem dc_H_tryLock_6 : decode cb_H_tryLock 6 = .ok (.aload_n 1, 1) := by decide +kernel
theorem dc_H_tryLock_7 : decode cb_H_tryLock 7 = .ok (.getfield 176, 3) := by decide +kernel
theorem dc_H_tryLock_10 : decode cb_H_tryLock 10 = .ok (.invokevirtual 266, 3) := by decide +kernel
theorem dc_H_tryLock_13 : decode cb_H_tryLock 13 = .ok (.istore 4, 2) := by decide +kernel
theorem dc_H_tryLock_15 : decode cb_H_tryLock 15 = .ok (.iload 4, 2) := by decide +kernel
theorem dc_H_tryLock_17 : decode cb_H_tryLock 17 = .ok (.ifCond .eq 17, 3) := by decide +kernel
theorem dc_H_tryLock_20 : decode cb_H_tryLock 20 = .ok (.aload_n 0, 1) := by decide +kernel
theorem dc_H_tryLock_21 : decode cb_H_tryLock 21 = .ok (.getfield 20, 3) := by decide +kernel
theorem dc_H_tryLock_24 : decode cb_H_tryLock 24 = .ok (.iload_n 2, 1) := by decide +kernel
theorem dc_H_tryLock_25 : decode cb_H_tryLock 25 = .ok (.aaload, 1) := by decide +kernel
theorem dc_H_tryLock_26 : decode cb_H_tryLock 26 = .ok (.aload_n 1, 1) := by decide +kernel
theorem dc_H_tryLock_27 : decode cb_H_tryLock 27 = .ok (.getfield 176, 3) := by decide +kernel
theorem dc_H_tryLock_30 : decode cb_H_tryLock 30 = .ok (.iconst 1, 1) := by decide +kernel
theorem dc_H_tryLock_31 : decode cb_H_tryLock 31 = .ok (.invokevirtual 270, 3) := by decide +kernel
theorem dc_H_tryLock_34 : decode cb_H_tryLock 34 = .ok (.aload_n 0, 1) := by decide +kernel
theorem dc_H_tryLock_35 : decode cb_H_tryLock 35 = .ok (.aload_n 1, 1) := by decide +kernel
theorem dc_H_tryLock_36 : decode cb_H_tryLock 36 = .ok (.iload_n 3, 1) := by decide +kernel
theorem dc_H_tryLock_37 : decode cb_H_tryLock 37 = .ok (.iload 4, 2) := by decide +kernel
theorem dc_H_tryLock_39 : decode cb_H_tryLock 39 = .ok (.ifCond .eq 7, 3) := by decide +kernel
theorem dc_H_tryLock_42 : decode cb_H_tryLock 42 = .ok (.iconst 1, 1) := by decide +kernel
theorem dc_H_tryLock_43 : decode cb_H_tryLock 43 = .ok (.goto 4, 3) := by decide +kernel
theorem dc_H_tryLock_46 : decode cb_H_tryLock 46 = .ok (.iconst 0, 1) := by decide +kernel
theorem dc_H_tryLock_47 : decode cb_H_tryLock 47 = .ok (.invokevirtual 205, 3) := by decide +kernel
theorem dc_H_tryLock_50 : decode cb_H_tryLock 50 = .ok (.return_, 1) := by decide +kernel
theorem dc_H_beginWait_0 : decode cb_H_beginWait 0 = .ok (.aload_n 0, 1) := by decide +kernel
theorem dc_H_beginWait_1 : decode cb_H_beginWait 1 = .ok (.getfield 20, 3) := by decide +kernel
theorem dc_H_beginWait_4 : decode cb_H_beginWait 4 = .ok (.iload_n 3, 1) := by decide +kernel
theorem dc_H_beginWait_5 : decode cb_H_beginWait 5 = .ok (.aaload, 1) := by decide +kernel
theorem dc_H_beginWait_6 : decode cb_H_beginWait 6 = .ok (.astore 4, 2) := by decide +kernel
theorem dc_H_beginWait_8 : decode cb_H_beginWait 8 = .ok (.aload 4, 2) := by decide +kernel
theorem dc_H_beginWait_10 : decode cb_H_beginWait 10 = .ok (.getfield 146, 3) := by decide +kernel
theorem dc_H_beginWait_13 : decode cb_H_beginWait 13 = .ok (.aload_n 1, 1) := by decide +kernel
theorem dc_H_beginWait_14 : decode cb_H_beginWait 14 = .ok (.getfield 176, 3) := by decide +kernel
theorem dc_H_beginWait_17 : decode cb_H_beginWait 17 = .ok (.if_icmp .eq 5, 3) := by decide +kernel
theorem dc_H_beginWait_20 : decode cb_H_beginWait 20 = .ok (.iconst 3, 1) := by decide +kernel
theorem dc_H_beginWait_21 : decode cb_H_beginWait 21 = .ok (.ireturn, 1) := by decide +kernel
theorem dc_H_beginWait_22 : decode cb_H_beginWait 22 = .ok (.aload_n 1, 1) := by decide +kernel
theorem dc_H_beginWait_23 : decode cb_H_beginWait 23 = .ok (.getfield 125, 3) := by decide +kernel
theorem dc_H_beginWait_26 : decode cb_H_beginWait 26 = .ok (.ifCond .eq 6, 3) := by decide +kernel
theorem dc_H_beginWait_29 : decode cb_H_beginWait 29 = .ok (.bipush 7, 2) := by decide +kernel
theorem dc_H_beginWait_31 : decode cb_H_beginWait 31 = .ok (.ireturn, 1) := by decide +kernel
theorem dc_H_beginWait_32 : decode cb_H_beginWait 32 = .ok (.aload_n 1, 1) := by decide +kernel
theorem dc_H_beginWait_33 : decode cb_H_beginWait 33 = .ok (.iload_n 2, 1) := by decide +kernel
theorem dc_H_beginWait_34 : decode cb_H_beginWait 34 = .ok (.putfield 285, 3) := by decide +kernel
theorem dc_H_beginWait_37 : decode cb_H_beginWait 37 = .ok (.aload_n 1, 1) := by decide +kernel
theorem dc_H_beginWait_38 : decode cb_H_beginWait 38 = .ok (.iload_n 3, 1) := by decide +kernel
theorem dc_H_beginWait_39 : decode cb_H_beginWait 39 = .ok (.putfield 288, 3) := by decide +kernel
theorem dc_H_beginWait_42 : decode cb_H_beginWait 42 = .ok (.aload_n 1, 1) := by decide +kernel
theorem dc_H_beginWait_43 : decode cb_H_beginWait 43 = .ok (.aload 4, 2) := by decide +kernel
theorem dc_H_beginWait_45 : decode cb_H_beginWait 45 = .ok (.getfield 149, 3) := by decide +kernel
theorem dc_H_beginWait_48 : decode cb_H_beginWait 48 = .ok (.putfield 273, 3) := by decide +kernel
theorem dc_H_beginWait_51 : decode cb_H_beginWait 51 = .ok (.aload_n 1, 1) := by decide +kernel
theorem dc_H_beginWait_52 : decode cb_H_beginWait 52 = .ok (.iconst 3, 1) := by decide +kernel
theorem dc_H_beginWait_53 : decode cb_H_beginWait 53 = .ok (.putfield 106, 3) := by decide +kernel
theorem dc_H_beginWait_56 : decode cb_H_beginWait 56 = .ok (.aload_n 0, 1) := by decide +kernel
theorem dc_H_beginWait_57 : decode cb_H_beginWait 57 = .ok (.getfield 27, 3) := by decide +kernel
theorem dc_H_beginWait_60 : decode cb_H_beginWait 60 = .ok (.iload_n 2, 1) := by decide +kernel
theorem dc_H_beginWait_61 : decode cb_H_beginWait 61 = .ok (.aaload, 1) := by decide +kernel
theorem dc_H_beginWait_62 : decode cb_H_beginWait 62 = .ok (.aload_n 1, 1) := by decide +kernel
theorem dc_H_beginWait_63 : decode cb_H_beginWait 63 = .ok (.getfield 176, 3) := by decide +kernel
theorem dc_H_beginWait_66 : decode cb_H_beginWait 66 = .ok (.invokevirtual 276, 3) := by decide +kernel
theorem dc_H_beginWait_69 : decode cb_H_beginWait 69 = .ok (.aload_n 0, 1) := by decide +kernel
theorem dc_H_beginWait_70 : decode cb_H_beginWait 70 = .ok (.aload 4, 2) := by decide +kernel
theorem dc_H_beginWait_72 : decode cb_H_beginWait 72 = .ok (.invokevirtual 278, 3) := by decide +kernel
theorem dc_H_beginWait_75 : decode cb_H_beginWait 75 = .ok (.iconst 0, 1) := by decide +kernel
theorem dc_H_beginWait_76 : decode cb_H_beginWait 76 = .ok (.ireturn, 1) := by decide +kernel
theorem dc_H_tellFirst_0 : decode cb_H_tellFirst 0 = .ok (.aload_n 1, 1) := by decide +kernel
theorem dc_H_tellFirst_1 : decode cb_H_tellFirst 1 = .ok (.invokevirtual 282, 3) := by decide +kernel
theorem dc_H_tellFirst_4 : decode cb_H_tellFirst 4 = .ok (.istore_n 2, 1) := by decide +kernel
theorem dc_H_tellFirst_5 : decode cb_H_tellFirst 5 = .ok (.iload_n 2, 1) := by decide +kernel
theorem dc_H_tellFirst_6 : decode cb_H_tellFirst 6 = .ok (.iconst (-1), 1) := by decide +kernel
theorem dc_H_tellFirst_7 : decode cb_H_tellFirst 7 = .ok (.if_icmp .eq 31, 3) := by decide +kernel
theorem dc_H_tellFirst_10 : decode cb_H_tellFirst 10 = .ok (.aload_n 0, 1) := by decide +kernel
theorem dc_H_tellFirst_11 : decode cb_H_tellFirst 11 = .ok (.aload_n 0, 1) := by decide +kernel
theorem dc_H_tellFirst_12 : decode cb_H_tellFirst 12 = .ok (.getfield 11, 3) := by decide +kernel
theorem dc_H_tellFirst_15 : decode cb_H_tellFirst 15 = .ok (.iload_n 2, 1) := by decide +kernel
theorem dc_H_tellFirst_16 : decode cb_H_tellFirst 16 = .ok (.aaload, 1) := by decide +kernel
theorem dc_H_tellFirst_17 : decode cb_H_tellFirst 17 = .ok (.aload_n 0, 1) := by decide +kernel
theorem dc_H_tellFirst_18 : decode cb_H_tellFirst 18 = .ok (.getfield 11, 3) := by decide +kernel
theorem dc_H_tellFirst_21 : decode cb_H_tellFirst 21 = .ok (.iload_n 2, 1) := by decide +kernel
theorem dc_H_tellFirst_22 : decode cb_H_tellFirst 22 = .ok (.aaload, 1) := by decide +kernel
theorem dc_H_tellFirst_23 : decode cb_H_tellFirst 23 = .ok (.getfield 288, 3) := by decide +kernel
theorem dc_H_tellFirst_26 : decode cb_H_tellFirst 26 = .ok (.aload_n 0, 1) := by decide +kernel
theorem dc_H_tellFirst_27 : decode cb_H_tellFirst 27 = .ok (.getfield 11, 3) := by decide +kernel
theorem dc_H_tellFirst_30 : decode cb_H_tellFirst 30 = .ok (.iload_n 2, 1) := by decide +kernel
theorem dc_H_tellFirst_31 : decode cb_H_tellFirst 31 = .ok (.aaload, 1) := by decide +kernel
theorem dc_H_tellFirst_32 : decode cb_H_tellFirst 32 = .ok (.getfield 273, 3) := by decide +kernel
theorem dc_H_tellFirst_35 : decode cb_H_tellFirst 35 = .ok (.invokevirtual 216, 3) := by decide +kernel
theorem dc_H_tellFirst_38 : decode cb_H_tellFirst 38 = .ok (.return_, 1) := by decide +kernel
theorem dc_H_tellAll_0 : decode cb_H_tellAll 0 = .ok (.aload_n 1, 1) := by decide +kernel
theorem dc_H_tellAll_1 : decode cb_H_tellAll 1 = .ok (.getfield 142, 3) := by decide +kernel
theorem dc_H_tellAll_4 : decode cb_H_tellAll 4 = .ok (.istore_n 2, 1) := by decide +kernel
theorem dc_H_tellAll_5 : decode cb_H_tellAll 5 = .ok (.iload_n 2, 1) := by decide +kernel
theorem dc_H_tellAll_6 : decode cb_H_tellAll 6 = .ok (.ifCond .le 14, 3) := by decide +kernel
theorem dc_H_tellAll_9 : decode cb_H_tellAll 9 = .ok (.aload_n 0, 1) := by decide +kernel
theorem dc_H_tellAll_10 : decode cb_H_tellAll 10 = .ok (.aload_n 1, 1) := by decide +kernel
theorem dc_H_tellAll_11 : decode cb_H_tellAll 11 = .ok (.invokevirtual 228, 3) := by decide +kernel
theorem dc_H_tellAll_14 : decode cb_H_tellAll 14 = .ok (.iinc 2 (-1), 3) := by decide +kernel
theorem dc_H_tellAll_17 : decode cb_H_tellAll 17 = .ok (.goto (-12), 3) := by decide +kernel
theorem dc_H_tellAll_20 : decode cb_H_tellAll 20 = .ok (.return_, 1) := by decide +kernel
theorem dc_H_startOther_0 : decode cb_H_startOther 0 = .ok (.aload_n 0, 1) := by decide +kernel
theorem dc_H_startOther_1 : decode cb_H_startOther 1 = .ok (.invokevirtual 79, 3) := by decide +kernel
theorem dc_H_startOther_4 : decode cb_H_startOther 4 = .ok (.ifCond .eq 5, 3) := by decide +kernel
theorem dc_H_startOther_7 : decode cb_H_startOther 7 = .ok (.iconst 4, 1) := by decide +kernel
theorem dc_H_startOther_8 : decode cb_H_startOther 8 = .ok (.ireturn, 1) := by decide +kernel
theorem dc_H_startOther_9 : decode cb_H_startOther 9 = .ok (.aload_n 0, 1) := by decide +kernel
theorem dc_H_startOther_10 : decode cb_H_startOther 10 = .ok (.invokevirtual 83, 3) := by decide +kernel
theorem dc_H_startOther_13 : decode cb_H_startOther 13 = .ok (.iconst 0, 1) := by decide +kernel
theorem dc_H_startOther_14 : decode cb_H_startOther 14 = .ok (.ireturn, 1) := by decide +kernel
theorem dc_H_beginJoin_0 : decode cb_H_beginJoin 0 = .ok (.aload_n 0, 1) := by decide +kernel
theorem dc_H_beginJoin_1 : decode cb_H_beginJoin 1 = .ok (.getfield 11, 3) := by decide +kernel
theorem dc_H_beginJoin_4 : decode cb_H_beginJoin 4 = .ok (.iload_n 2, 1) := by decide +kernel
theorem dc_H_beginJoin_5 : decode cb_H_beginJoin 5 = .ok (.aaload, 1) := by decide +kernel
theorem dc_H_beginJoin_6 : decode cb_H_beginJoin 6 = .ok (.astore 4, 2) := by decide +kernel
theorem dc_H_beginJoin_8 : decode cb_H_beginJoin 8 = .ok (.aload 4, 2) := by decide +kernel
theorem dc_H_beginJoin_10 : decode cb_H_beginJoin 10 = .ok (.getfield 106, 3) := by decide +kernel
theorem dc_H_beginJoin_13 : decode cb_H_beginJoin 13 = .ok (.iconst 5, 1) := by decide +kernel
theorem dc_H_beginJoin_14 : decode cb_H_beginJoin 14 = .ok (.if_icmp .ne 16, 3) := by decide +kernel
theorem dc_H_beginJoin_17 : decode cb_H_beginJoin 17 = .ok (.aload_n 0, 1) := by decide +kernel
theorem dc_H_beginJoin_18 : decode cb_H_beginJoin 18 = .ok (.aload_n 1, 1) := by decide +kernel
theorem dc_H_beginJoin_19 : decode cb_H_beginJoin 19 = .ok (.iload_n 3, 1) := by decide +kernel
theorem dc_H_beginJoin_20 : decode cb_H_beginJoin 20 = .ok (.aload 4, 2) := by decide +kernel
theorem dc_H_beginJoin_22 : decode cb_H_beginJoin 22 = .ok (.getfield 112, 3) := by decide +kernel
theorem dc_H_beginJoin_25 : decode cb_H_beginJoin 25 = .ok (.invokevirtual 205, 3) := by decide +kernel
theorem dc_H_beginJoin_28 : decode cb_H_beginJoin 28 = .ok (.iconst 0, 1) := by decide +kernel
theorem dc_H_beginJoin_29 : decode cb_H_beginJoin 29 = .ok (.ireturn, 1) := by decide +kernel
theorem dc_H_beginJoin_30 : decode cb_H_beginJoin 30 = .ok (.aload 4, 2) := by decide +kernel
theorem dc_H_beginJoin_32 : decode cb_H_beginJoin 32 = .ok (.getfield 106, 3) := by decide +kernel
theorem dc_H_beginJoin_35 : decode cb_H_beginJoin 35 = .ok (.ifCond .eq 11, 3) := by decide +kernel
theorem dc_H_beginJoin_38 : decode cb_H_beginJoin 38 = .ok (.iload_n 2, 1) := by decide +kernel
theorem dc_H_beginJoin_39 : decode cb_H_beginJoin 39 = .ok (.aload_n 1, 1) := by decide +kernel
theorem dc_H_beginJoin_40 : decode cb_H_beginJoin 40 = .ok (.getfield 176, 3) := by decide +kernel
theorem dc_H_beginJoin_43 : decode cb_H_beginJoin 43 = .ok (.if_icmp .ne 5, 3) := by decide +kernel
theorem dc_H_beginJoin_46 : decode cb_H_beginJoin 46 = .ok (.iconst 5, 1) := by decide +kernel
theorem dc_H_beginJoin_47 : decode cb_H_beginJoin 47 = .ok (.ireturn, 1) := by decide +kernel
theorem dc_H_beginJoin_48 : decode cb_H_beginJoin 48 = .ok (.aload_n 1, 1) := by decide +kernel
theorem dc_H_beginJoin_49 : decode cb_H_beginJoin 49 = .ok (.getfield 125, 3) := by decide +kernel
theorem dc_H_beginJoin_52 : decode cb_H_beginJoin 52 = .ok (.ifCond .eq 6, 3) := by decide +kernel
theorem dc_H_beginJoin_55 : decode cb_H_beginJoin 55 = .ok (.bipush 7, 2) := by decide +kernel
theorem dc_H_beginJoin_57 : decode cb_H_beginJoin 57 = .ok (.ireturn, 1) := by decide +kernel
theorem dc_H_beginJoin_58 : decode cb_H_beginJoin 58 = .ok (.aload_n 1, 1) := by decide +kernel
theorem dc_H_beginJoin_59 : decode cb_H_beginJoin 59 = .ok (.iload_n 2, 1) := by decide +kernel
theorem dc_H_beginJoin_60 : decode cb_H_beginJoin 60 = .ok (.putfield 291, 3) := by decide +kernel
theorem dc_H_beginJoin_63 : decode cb_H_beginJoin 63 = .ok (.aload_n 1, 1) := by decide +kernel
theorem dc_H_beginJoin_64 : decode cb_H_beginJoin 64 = .ok (.iload_n 3, 1) := by decide +kernel
theorem dc_H_beginJoin_65 : decode cb_H_beginJoin 65 = .ok (.putfield 294, 3) := by decide +kernel
theorem dc_H_beginJoin_68 : decode cb_H_beginJoin 68 = .ok (.aload_n 1, 1) := by decide +kernel
theorem dc_H_beginJoin_69 : decode cb_H_beginJoin 69 = .ok (.iconst 4, 1) := by decide +kernel
theorem dc_H_beginJoin_70 : decode cb_H_beginJoin 70 = .ok (.putfield 106, 3) := by decide +kernel
theorem dc_H_beginJoin_73 : decode cb_H_beginJoin 73 = .ok (.aload 4, 2) := by decide +kernel
theorem dc_H_beginJoin_75 : decode cb_H_beginJoin 75 = .ok (.getfield 138, 3) := by decide +kernel
theorem dc_H_beginJoin_78 : decode cb_H_beginJoin 78 = .ok (.aload_n 1, 1) := by decide +kernel
theorem dc_H_beginJoin_79 : decode cb_H_beginJoin 79 = .ok (.getfield 176, 3) := by decide +kernel
theorem dc_H_beginJoin_82 : decode cb_H_beginJoin 82 = .ok (.invokevirtual 276, 3) := by decide +kernel
theorem dc_H_beginJoin_85 : decode cb_H_beginJoin 85 = .ok (.iconst 0, 1) := by decide +kernel
theorem dc_H_beginJoin_86 : decode cb_H_beginJoin 86 = .ok (.ireturn, 1) := by decide +kernel
theorem dc_H_interruptAlive_0 : decode cb_H_interruptAlive 0 = .ok (.aload_n 1, 1) := by decide +kernel
theorem dc_H_interruptAlive_1 : decode cb_H_interruptAlive 1 = .ok (.getfield 106, 3) := by decide +kernel
theorem dc_H_interruptAlive_4 : decode cb_H_interruptAlive 4 = .ok (.iconst 3, 1) := by decide +kernel
theorem dc_H_interruptAlive_5 : decode cb_H_interruptAlive 5 = .ok (.if_icmp .ne 40, 3) := by decide +kernel
theorem dc_H_interruptAlive_8 : decode cb_H_interruptAlive 8 = .ok (.aload_n 0, 1) := by decide +kernel
theorem dc_H_interruptAlive_9 : decode cb_H_interruptAlive 9 = .ok (.getfield 27, 3) := by decide +kernel
theorem dc_H_interruptAlive_12 : decode cb_H_interruptAlive 12 = .ok (.aload_n 1, 1) := by decide +kernel
theorem dc_H_interruptAlive_13 : decode cb_H_interruptAlive 13 = .ok (.getfield 285, 3) := by decide +kernel
theorem dc_H_interruptAlive_16 : decode cb_H_interruptAlive 16 = .ok (.aaload, 1) := by decide +kernel
theorem dc_H_interruptAlive_17 : decode cb_H_interruptAlive 17 = .ok (.aload_n 1, 1) := by decide +kernel
theorem dc_H_interruptAlive_18 : decode cb_H_interruptAlive 18 = .ok (.getfield 176, 3) := by decide +kernel
theorem dc_H_interruptAlive_21 : decode cb_H_interruptAlive 21 = .ok (.invokevirtual 297, 3) := by decide +kernel
theorem dc_H_interruptAlive_24 : decode cb_H_interruptAlive 24 = .ok (.aload_n 1, 1) := by decide +kernel
theorem dc_H_interruptAlive_25 : decode cb_H_interruptAlive 25 = .ok (.iconst 1, 1) := by decide +kernel
theorem dc_H_interruptAlive_26 : decode cb_H_interruptAlive 26 = .ok (.putfield 179, 3) := by decide +kernel
theorem dc_H_interruptAlive_29 : decode cb_H_interruptAlive 29 = .ok (.aload_n 0, 1) := by decide +kernel
theorem dc_H_interruptAlive_30 : decode cb_H_interruptAlive 30 = .ok (.aload_n 1, 1) := by decide +kernel
theorem dc_H_interruptAlive_31 : decode cb_H_interruptAlive 31 = .ok (.aload_n 1, 1) := by decide +kernel
theorem dc_H_interruptAlive_32 : decode cb_H_interruptAlive 32 = .ok (.getfield 288, 3) := by decide +kernel
theorem dc_H_interruptAlive_35 : decode cb_H_interruptAlive 35 = .ok (.aload_n 1, 1) := by decide +kernel
theorem dc_H_interruptAlive_36 : decode cb_H_interruptAlive 36 = .ok (.getfield 273, 3) := by decide +kernel
theorem dc_H_interruptAlive_39 : decode cb_H_interruptAlive 39 = .ok (.invokevirtual 216, 3) := by decide +kernel
theorem dc_H_interruptAlive_42 : decode cb_H_interruptAlive 42 = .ok (.goto 55, 3) := by decide +kernel
theorem dc_H_interruptAlive_45 : decode cb_H_interruptAlive 45 = .ok (.aload_n 1, 1) := by decide +kernel
theorem dc_H_interruptAlive_46 : decode cb_H_interruptAlive 46 = .ok (.getfield 106, 3) := by decide +kernel
theorem dc_H_interruptAlive_49 : decode cb_H_interruptAlive 49 = .ok (.iconst 4, 1) := by decide +kernel
theorem dc_H_interruptAlive_50 : decode cb_H_interruptAlive 50 = .ok (.if_icmp .ne 35, 3) := by decide +kernel
theorem dc_H_interruptAlive_53 : decode cb_H_interruptAlive 53 = .ok (.aload_n 0, 1) := by decide +kernel
theorem dc_H_interruptAlive_54 : decode cb_H_interruptAlive 54 = .ok (.getfield 11, 3) := by decide +kernel
theorem dc_H_interruptAlive_57 : decode cb_H_interruptAlive 57 = .ok (.aload_n 1, 1) := by decide +kernel
theorem dc_H_interruptAlive_58 : decode cb_H_interruptAlive 58 = .ok (.getfield 291, 3) := by decide +kernel
theorem dc_H_interruptAlive_61 : decode cb_H_interruptAlive 61 = .ok (.aaload, 1) := by decide +kernel
theorem dc_H_interruptAlive_62 : decode cb_H_interruptAlive 62 = .ok (.getfield 138, 3) := by decide +kernel
theorem dc_H_interruptAlive_65 : decode cb_H_interruptAlive 65 = .ok (.aload_n 1, 1) := by decide +kernel
theorem dc_H_interruptAlive_66 : decode cb_H_interruptAlive 66 = .ok (.getfield 176, 3) := by decide +kernel
theorem dc_H_interruptAlive_69 : decode cb_H_interruptAlive 69 = .ok (.invokevirtual 297, 3) := by decide +kernel
theorem dc_H_interruptAlive_72 : decode cb_H_interruptAlive 72 = .ok (.aload_n 1, 1) := by decide +kernel
theorem dc_H_interruptAlive_73 : decode cb_H_interruptAlive 73 = .ok (.iconst 1, 1) := by decide +kernel
theorem dc_H_interruptAlive_74 : decode cb_H_interruptAlive 74 = .ok (.putfield 179, 3) := by decide +kernel
theorem dc_H_interruptAlive_77 : decode cb_H_interruptAlive 77 = .ok (.aload_n 1, 1) := by decide +kernel
theorem dc_H_interruptAlive_78 : decode cb_H_interruptAlive 78 = .ok (.iconst 1, 1) := by decide +kernel
theorem dc_H_interruptAlive_79 : decode cb_H_interruptAlive 79 = .ok (.putfield 106, 3) := by decide +kernel
theorem dc_H_interruptAlive_82 : decode cb_H_interruptAlive 82 = .ok (.goto 15, 3) := by decide +kernel
theorem dc_H_interruptAlive_85 : decode cb_H_interruptAlive 85 = .ok (.aload_n 1, 1) := by decide +kernel
theorem dc_H_interruptAlive_86 : decode cb_H_interruptAlive 86 = .ok (.invokevirtual 79, 3) := by decide +kernel
theorem dc_H_interruptAlive_89 : decode cb_H_interruptAlive 89 = .ok (.ifCond .eq 8, 3) := by decide +kernel
theorem dc_H_interruptAlive_92 : decode cb_H_interruptAlive 92 = .ok (.aload_n 1, 1) := by decide +kernel
theorem dc_H_interruptAlive_93 : decode cb_H_interruptAlive 93 = .ok (.iconst 1, 1) := by decide +kernel
theorem dc_H_interruptAlive_94 : decode cb_H_interruptAlive 94 = .ok (.putfield 125, 3) := by decide +kernel
theorem dc_H_interruptAlive_97 : decode cb_H_interruptAlive 97 = .ok (.return_, 1) := by decide +kernel
theorem dc_H_runHooks_0 : decode cb_H_runHooks 0 = .ok (.aload_n 1, 1) := by decide +kernel
theorem dc_H_runHooks_1 : decode cb_H_runHooks 1 = .ok (.getfield 122, 3) := by decide +kernel
theorem dc_H_runHooks_4 : decode cb_H_runHooks 4 = .ok (.astore_n 2, 1) := by decide +kernel
theorem dc_H_runHooks_5 : decode cb_H_runHooks 5 = .ok (.aload_n 2, 1) := by decide +kernel
theorem dc_H_runHooks_6 : decode cb_H_runHooks 6 = .ok (.getfield 119, 3) := by decide +kernel
theorem dc_H_runHooks_9 : decode cb_H_runHooks 9 = .ok (.iconst 1, 1) := by decide +kernel
theorem dc_H_runHooks_10 : decode cb_H_runHooks 10 = .ok (.isub, 1) := by decide +kernel
theorem dc_H_runHooks_11 : decode cb_H_runHooks 11 = .ok (.istore_n 3, 1) := by decide +kernel
theorem dc_H_runHooks_12 : decode cb_H_runHooks 12 = .ok (.iload_n 3, 1) := by decide +kernel
theorem dc_H_runHooks_13 : decode cb_H_runHooks 13 = .ok (.ifCond .lt 38, 3) := by decide +kernel
theorem dc_H_runHooks_16 : decode cb_H_runHooks 16 = .ok (.aload_n 2, 1) := by decide +kernel
theorem dc_H_runHooks_17 : decode cb_H_runHooks 17 = .ok (.getfield 310, 3) := by decide +kernel
theorem dc_H_runHooks_20 : decode cb_H_runHooks 20 = .ok (.iload_n 3, 1) := by decide +kernel
theorem dc_H_runHooks_21 : decode cb_H_runHooks 21 = .ok (.iaload, 1) := by decide +kernel
theorem dc_H_runHooks_22 : decode cb_H_runHooks 22 = .ok (.istore 4, 2) := by decide +kernel
theorem dc_H_runHooks_24 : decode cb_H_runHooks 24 = .ok (.aload_n 0, 1) := by decide +kernel
theorem dc_H_runHooks_25 : decode cb_H_runHooks 25 = .ok (.aload_n 1, 1) := by decide +kernel
theorem dc_H_runHooks_26 : decode cb_H_runHooks 26 = .ok (.iload 4, 2) := by decide +kernel
theorem dc_H_runHooks_28 : decode cb_H_runHooks 28 = .ok (.aload_n 0, 1) := by decide +kernel
theorem dc_H_runHooks_29 : decode cb_H_runHooks 29 = .ok (.aload_n 1, 1) := by decide +kernel
theorem dc_H_runHooks_30 : decode cb_H_runHooks 30 = .ok (.iload 4, 2) := by decide +kernel
theorem dc_H_runHooks_32 : decode cb_H_runHooks 32 = .ok (.invokevirtual 102, 3) := by decide +kernel
theorem dc_H_runHooks_35 : decode cb_H_runHooks 35 = .ok (.aload_n 2, 1) := by decide +kernel
theorem dc_H_runHooks_36 : decode cb_H_runHooks 36 = .ok (.getfield 255, 3) := by decide +kernel
theorem dc_H_runHooks_39 : decode cb_H_runHooks 39 = .ok (.iload_n 3, 1) := by decide +kernel
theorem dc_H_runHooks_40 : decode cb_H_runHooks 40 = .ok (.iaload, 1) := by decide +kernel
theorem dc_H_runHooks_41 : decode cb_H_runHooks 41 = .ok (.iadd, 1) := by decide +kernel
theorem dc_H_runHooks_42 : decode cb_H_runHooks 42 = .ok (.invokevirtual 205, 3) := by decide +kernel
theorem dc_H_runHooks_45 : decode cb_H_runHooks 45 = .ok (.iinc 3 (-1), 3) := by decide +kernel
theorem dc_H_runHooks_48 : decode cb_H_runHooks 48 = .ok (.goto (-36), 3) := by decide +kernel
theorem dc_H_runHooks_51 : decode cb_H_runHooks 51 = .ok (.return_, 1) := by decide +kernel
theorem dc_H_wakeJoiners_0 : decode cb_H_wakeJoiners 0 = .ok (.aload_n 1, 1) := by decide +kernel
theorem dc_H_wakeJoiners_1 : decode cb_H_wakeJoiners 1 = .ok (.getfield 138, 3) := by decide +kernel
theorem dc_H_wakeJoiners_4 : decode cb_H_wakeJoiners 4 = .ok (.getfield 142, 3) := by decide +kernel
theorem dc_H_wakeJoiners_7 : decode cb_H_wakeJoiners 7 = .ok (.istore_n 2, 1) := by decide +kernel
theorem dc_H_wakeJoiners_8 : decode cb_H_wakeJoiners 8 = .ok (.iload_n 2, 1) := by decide +kernel
theorem dc_H_wakeJoiners_9 : decode cb_H_wakeJoiners 9 = .ok (.ifCond .le 55, 3) := by decide +kernel
theorem dc_H_wakeJoiners_12 : decode cb_H_wakeJoiners 12 = .ok (.aload_n 1, 1) := by decide +kernel
theorem dc_H_wakeJoiners_13 : decode cb_H_wakeJoiners 13 = .ok (.getfield 138, 3) := by decide +kernel
theorem dc_H_wakeJoiners_16 : decode cb_H_wakeJoiners 16 = .ok (.invokevirtual 282, 3) := by decide +kernel
theorem dc_H_wakeJoiners_19 : decode cb_H_wakeJoiners 19 = .ok (.istore_n 3, 1) := by decide +kernel
theorem dc_H_wakeJoiners_20 : decode cb_H_wakeJoiners 20 = .ok (.iload_n 3, 1) := by decide +kernel
theorem dc_H_wakeJoiners_21 : decode cb_H_wakeJoiners 21 = .ok (.iconst (-1), 1) := by decide +kernel
theorem dc_H_wakeJoiners_22 : decode cb_H_wakeJoiners 22 = .ok (.if_icmp .eq 36, 3) := by decide +kernel
theorem dc_H_wakeJoiners_25 : decode cb_H_wakeJoiners 25 = .ok (.aload_n 0, 1) := by decide +kernel
theorem dc_H_wakeJoiners_26 : decode cb_H_wakeJoiners 26 = .ok (.aload_n 0, 1) := by decide +kernel
theorem dc_H_wakeJoiners_27 : decode cb_H_wakeJoiners 27 = .ok (.getfield 11, 3) := by decide +kernel
theorem dc_H_wakeJoiners_30 : decode cb_H_wakeJoiners 30 = .ok (.iload_n 3, 1) := by decide +kernel
theorem dc_H_wakeJoiners_31 : decode cb_H_wakeJoiners 31 = .ok (.aaload, 1) := by decide +kernel
theorem dc_H_wakeJoiners_32 : decode cb_H_wakeJoiners 32 = .ok (.aload_n 0, 1) := by decide +kernel
theorem dc_H_wakeJoiners_33 : decode cb_H_wakeJoiners 33 = .ok (.getfield 11, 3) := by decide +kernel
theorem dc_H_wakeJoiners_36 : decode cb_H_wakeJoiners 36 = .ok (.iload_n 3, 1) := by decide +kernel
theorem dc_H_wakeJoiners_37 : decode cb_H_wakeJoiners 37 = .ok (.aaload, 1) := by decide +kernel
theorem dc_H_wakeJoiners_38 : decode cb_H_wakeJoiners 38 = .ok (.getfield 294, 3) := by decide +kernel
theorem dc_H_wakeJoiners_41 : decode cb_H_wakeJoiners 41 = .ok (.aload_n 1, 1) := by decide +kernel
theorem dc_H_wakeJoiners_42 : decode cb_H_wakeJoiners 42 = .ok (.getfield 112, 3) := by decide +kernel
theorem dc_H_wakeJoiners_45 : decode cb_H_wakeJoiners 45 = .ok (.invokevirtual 205, 3) := by decide +kernel
theorem dc_H_wakeJoiners_48 : decode cb_H_wakeJoiners 48 = .ok (.aload_n 0, 1) := by decide +kernel
theorem dc_H_wakeJoiners_49 : decode cb_H_wakeJoiners 49 = .ok (.getfield 11, 3) := by decide +kernel
theorem dc_H_wakeJoiners_52 : decode cb_H_wakeJoiners 52 = .ok (.iload_n 3, 1) := by decide +kernel
theorem dc_H_wakeJoiners_53 : decode cb_H_wakeJoiners 53 = .ok (.aaload, 1) := by decide +kernel
theorem dc_H_wakeJoiners_54 : decode cb_H_wakeJoiners 54 = .ok (.iconst 1, 1) := by decide +kernel
theorem dc_H_wakeJoiners_55 : decode cb_H_wakeJoiners 55 = .ok (.putfield 106, 3) := by decide +kernel
theorem dc_H_wakeJoiners_58 : decode cb_H_wakeJoiners 58 = .ok (.iinc 2 (-1), 3) := by decide +kernel
theorem dc_H_wakeJoiners_61 : decode cb_H_wakeJoiners 61 = .ok (.goto (-53), 3) := by decide +kernel
theorem dc_H_wakeJoiners_64 : decode cb_H_wakeJoiners 64 = .ok (.return_, 1) := by decide +kernel
theorem dc_H_finish_0 : decode cb_H_finish 0 = .ok (.aload_n 0, 1) := by decide +kernel
theorem dc_H_finish_1 : decode cb_H_finish 1 = .ok (.aload_n 1, 1) := by decide +kernel
theorem dc_H_finish_2 : decode cb_H_finish 2 = .ok (.invokevirtual 301, 3) := by decide +kernel
theorem dc_H_finish_5 : decode cb_H_finish 5 = .ok (.aload_n 1, 1) := by decide +kernel
theorem dc_H_finish_6 : decode cb_H_finish 6 = .ok (.invokevirtual 304, 3) := by decide +kernel
theorem dc_H_finish_9 : decode cb_H_finish 9 = .ok (.aload_n 1, 1) := by decide +kernel
theorem dc_H_finish_10 : decode cb_H_finish 10 = .ok (.iload_n 2, 1) := by decide +kernel
theorem dc_H_finish_11 : decode cb_H_finish 11 = .ok (.putfield 112, 3) := by decide +kernel
theorem dc_H_finish_14 : decode cb_H_finish 14 = .ok (.aload_n 1, 1) := by decide +kernel
theorem dc_H_finish_15 : decode cb_H_finish 15 = .ok (.iconst 5, 1) := by decide +kernel
theorem dc_H_finish_16 : decode cb_H_finish 16 = .ok (.putfield 106, 3) := by decide +kernel
theorem dc_H_finish_19 : decode cb_H_finish 19 = .ok (.aload_n 0, 1) := by decide +kernel
theorem dc_H_finish_20 : decode cb_H_finish 20 = .ok (.dup, 1) := by decide +kernel
theorem dc_H_finish_21 : decode cb_H_finish 21 = .ok (.getfield 170, 3) := by decide +kernel
theorem dc_H_finish_24 : decode cb_H_finish 24 = .ok (.iconst 1, 1) := by decide +kernel
theorem dc_H_finish_25 : decode cb_H_finish 25 = .ok (.iadd, 1) := by decide +kernel
theorem dc_H_finish_26 : decode cb_H_finish 26 = .ok (.putfield 170, 3) := by decide +kernel
theorem dc_H_finish_29 : decode cb_H_finish 29 = .ok (.iconst 0, 1) := by decide +kernel
theorem dc_H_finish_30 : decode cb_H_finish 30 = .ok (.istore_n 3, 1) := by decide +kernel
theorem dc_H_finish_31 : decode cb_H_finish 31 = .ok (.iload_n 3, 1) := by decide +kernel
theorem dc_H_finish_32 : decode cb_H_finish 32 = .ok (.iconst 3, 1) := by decide +kernel
theorem dc_H_finish_33 : decode cb_H_finish 33 = .ok (.if_icmp .ge 35, 3) := by decide +kernel
theorem dc_H_finish_36 : decode cb_H_finish 36 = .ok (.aload_n 0, 1) := by decide +kernel
theorem dc_H_finish_37 : decode cb_H_finish 37 = .ok (.getfield 20, 3) := by decide +kernel
theorem dc_H_finish_40 : decode cb_H_finish 40 = .ok (.iload_n 3, 1) := by decide +kernel
theorem dc_H_finish_41 : decode cb_H_finish 41 = .ok (.aaload, 1) := by decide +kernel
theorem dc_H_finish_42 : decode cb_H_finish 42 = .ok (.getfield 146, 3) := by decide +kernel
theorem dc_H_finish_45 : decode cb_H_finish 45 = .ok (.aload_n 1, 1) := by decide +kernel
theorem dc_H_finish_46 : decode cb_H_finish 46 = .ok (.getfield 176, 3) := by decide +kernel
theorem dc_H_finish_49 : decode cb_H_finish 49 = .ok (.if_icmp .ne 13, 3) := by decide +kernel
theorem dc_H_finish_52 : decode cb_H_finish 52 = .ok (.aload_n 0, 1) := by decide +kernel
theorem dc_H_finish_53 : decode cb_H_finish 53 = .ok (.aload_n 0, 1) := by decide +kernel
theorem dc_H_finish_54 : decode cb_H_finish 54 = .ok (.getfield 20, 3) := by decide +kernel
theorem dc_H_finish_57 : decode cb_H_finish 57 = .ok (.iload_n 3, 1) := by decide +kernel
theorem dc_H_finish_58 : decode cb_H_finish 58 = .ok (.aaload, 1) := by decide +kernel
theorem dc_H_finish_59 : decode cb_H_finish 59 = .ok (.invokevirtual 278, 3) := by decide +kernel
theorem dc_H_finish_62 : decode cb_H_finish 62 = .ok (.iinc 3 1, 3) := by decide +kernel
theorem dc_H_finish_65 : decode cb_H_finish 65 = .ok (.goto (-34), 3) := by decide +kernel
theorem dc_H_finish_68 : decode cb_H_finish 68 = .ok (.aload_n 0, 1) := by decide +kernel
theorem dc_H_finish_69 : decode cb_H_finish 69 = .ok (.aload_n 1, 1) := by decide +kernel
theorem dc_H_finish_70 : decode cb_H_finish 70 = .ok (.invokevirtual 307, 3) := by decide +kernel
theorem dc_H_finish_73 : decode cb_H_finish 73 = .ok (.return_, 1) := by decide +kernel
theorem dc_H_raise_0 : decode cb_H_raise 0 = .ok (.aload_n 0, 1) := by decide +kernel
theorem dc_H_raise_1 : decode cb_H_raise 1 = .ok (.dup, 1) := by decide +kernel
theorem dc_H_raise_2 : decode cb_H_raise 2 = .ok (.getfield 167, 3) := by decide +kernel
theorem dc_H_raise_5 : decode cb_H_raise 5 = .ok (.iconst 1, 1) := by decide +kernel
theorem dc_H_raise_6 : decode cb_H_raise 6 = .ok (.iadd, 1) := by decide +kernel
theorem dc_H_raise_7 : decode cb_H_raise 7 = .ok (.putfield 167, 3) := by decide +kernel
theorem dc_H_raise_10 : decode cb_H_raise 10 = .ok (.iload_n 2, 1) := by decide +kernel
theorem dc_H_raise_11 : decode cb_H_raise 11 = .ok (.bipush 7, 2) := by decide +kernel
theorem dc_H_raise_13 : decode cb_H_raise 13 = .ok (.if_icmp .ne 7, 3) := by decide +kernel
theorem dc_H_raise_16 : decode cb_H_raise 16 = .ok (.aload_n 1, 1) := by decide +kernel
theorem dc_H_raise_17 : decode cb_H_raise 17 = .ok (.invokevirtual 298, 3) := by decide +kernel
theorem dc_H_raise_20 : decode cb_H_raise 20 = .ok (.aload_n 1, 1) := by decide +kernel
theorem dc_H_raise_21 : decode cb_H_raise 21 = .ok (.getfield 129, 3) := by decide +kernel
theorem dc_H_raise_24 : decode cb_H_raise 24 = .ok (.bipush 24, 2) := by decide +kernel
theorem dc_H_raise_26 : decode cb_H_raise 26 = .ok (.if_icmp .ne 11, 3) := by decide +kernel
theorem dc_H_raise_29 : decode cb_H_raise 29 = .ok (.aload_n 0, 1) := by decide +kernel
theorem dc_H_raise_30 : decode cb_H_raise 30 = .ok (.aload_n 1, 1) := by decide +kernel
theorem dc_H_raise_31 : decode cb_H_raise 31 = .ok (.iload_n 2, 1) := by decide +kernel
theorem dc_H_raise_32 : decode cb_H_raise 32 = .ok (.ineg, 1) := by decide +kernel
theorem dc_H_raise_33 : decode cb_H_raise 33 = .ok (.invokevirtual 186, 3) := by decide +kernel
theorem dc_H_raise_36 : decode cb_H_raise 36 = .ok (.return_, 1) := by decide +kernel
theorem dc_H_raise_37 : decode cb_H_raise 37 = .ok (.aload_n 1, 1) := by decide +kernel
theorem dc_H_raise_38 : decode cb_H_raise 38 = .ok (.aload_n 1, 1) := by decide +kernel
theorem dc_H_raise_39 : decode cb_H_raise 39 = .ok (.getfield 129, 3) := by decide +kernel
theorem dc_H_raise_42 : decode cb_H_raise 42 = .ok (.putfield 109, 3) := by decide +kernel
theorem dc_H_raise_45 : decode cb_H_raise 45 = .ok (.aload_n 1, 1) := by decide +kernel
theorem dc_H_raise_46 : decode cb_H_raise 46 = .ok (.bipush 24, 2) := by decide +kernel
theorem dc_H_raise_48 : decode cb_H_raise 48 = .ok (.putfield 129, 3) := by decide +kernel
theorem dc_H_raise_51 : decode cb_H_raise 51 = .ok (.aload_n 0, 1) := by decide +kernel
theorem dc_H_raise_52 : decode cb_H_raise 52 = .ok (.aload_n 1, 1) := by decide +kernel
theorem dc_H_raise_53 : decode cb_H_raise 53 = .ok (.iconst 3, 1) := by decide +kernel
theorem dc_H_raise_54 : decode cb_H_raise 54 = .ok (.iload_n 2, 1) := by decide +kernel
theorem dc_H_raise_55 : decode cb_H_raise 55 = .ok (.invokevirtual 205, 3) := by decide +kernel
theorem dc_H_raise_58 : decode cb_H_raise 58 = .ok (.return_, 1) := by decide +kernel
theorem dc_H_perform_0 : decode cb_H_perform 0 = .ok (.iload_n 2, 1) := by decide +kernel
theorem dc_H_perform_1 : decode cb_H_perform 1 = .ok (.tableswitch 311 0 19 #[95, 106, 124, 140, 148, 154, 164, 171, 182, 191, 204, 217, 227, 236, 249, 257, 265, 273, 284, 297], 95) := by decide +kernel
theorem dc_H_perform_96 : decode cb_H_perform 96 = .ok (.aload_n 0, 1) := by decide +kernel
theorem dc_H_perform_97 : decode cb_H_perform 97 = .ok (.aload_n 1, 1) := by decide +kernel
theorem dc_H_perform_98 : decode cb_H_perform 98 = .ok (.iload_n 3, 1) := by decide +kernel
theorem dc_H_perform_99 : decode cb_H_perform 99 = .ok (.iload 4, 2) := by decide +kernel
theorem dc_H_perform_101 : decode cb_H_perform 101 = .ok (.invokevirtual 205, 3) := by decide +kernel
theorem dc_H_perform_104 : decode cb_H_perform 104 = .ok (.goto 208, 3) := by decide +kernel
theorem dc_H_perform_107 : decode cb_H_perform 107 = .ok (.aload_n 0, 1) := by decide +kernel
theorem dc_H_perform_108 : decode cb_H_perform 108 = .ok (.aload_n 1, 1) := by decide +kernel
theorem dc_H_perform_109 : decode cb_H_perform 109 = .ok (.iload_n 3, 1) := by decide +kernel
theorem dc_H_perform_110 : decode cb_H_perform 110 = .ok (.aload_n 0, 1) := by decide +kernel
theorem dc_H_perform_111 : decode cb_H_perform 111 = .ok (.aload_n 1, 1) := by decide +kernel
theorem dc_H_perform_112 : decode cb_H_perform 112 = .ok (.iload_n 3, 1) := by decide +kernel
theorem dc_H_perform_113 : decode cb_H_perform 113 = .ok (.invokevirtual 102, 3) := by decide +kernel
theorem dc_H_perform_116 : decode cb_H_perform 116 = .ok (.iload 4, 2) := by decide +kernel
theorem dc_H_perform_118 : decode cb_H_perform 118 = .ok (.iadd, 1) := by decide +kernel
theorem dc_H_perform_119 : decode cb_H_perform 119 = .ok (.invokevirtual 205, 3) := by decide +kernel
theorem dc_H_perform_122 : decode cb_H_perform 122 = .ok (.goto 190, 3) := by decide +kernel
theorem dc_H_perform_125 : decode cb_H_perform 125 = .ok (.aload_n 0, 1) := by decide +kernel
theorem dc_H_perform_126 : decode cb_H_perform 126 = .ok (.aload_n 1, 1) := by decide +kernel
theorem dc_H_perform_127 : decode cb_H_perform 127 = .ok (.iload_n 3, 1) := by decide +kernel
theorem dc_H_perform_128 : decode cb_H_perform 128 = .ok (.aload_n 0, 1) := by decide +kernel
theorem dc_H_perform_129 : decode cb_H_perform 129 = .ok (.aload_n 1, 1) := by decide +kernel
theorem dc_H_perform_130 : decode cb_H_perform 130 = .ok (.iload 4, 2) := by decide +kernel
theorem dc_H_perform_132 : decode cb_H_perform 132 = .ok (.invokevirtual 102, 3) := by decide +kernel
theorem dc_H_perform_135 : decode cb_H_perform 135 = .ok (.invokevirtual 205, 3) := by decide +kernel
theorem dc_H_perform_138 : decode cb_H_perform 138 = .ok (.goto 174, 3) := by decide +kernel
theorem dc_H_perform_141 : decode cb_H_perform 141 = .ok (.aload_n 1, 1) := by decide +kernel
theorem dc_H_perform_142 : decode cb_H_perform 142 = .ok (.iload_n 3, 1) := by decide +kernel
theorem dc_H_perform_143 : decode cb_H_perform 143 = .ok (.iload 4, 2) := by decide +kernel
theorem dc_H_perform_145 : decode cb_H_perform 145 = .ok (.invokestatic 209, 3) := by decide +kernel
theorem dc_H_perform_148 : decode cb_H_perform 148 = .ok (.ireturn, 1) := by decide +kernel
theorem dc_H_perform_149 : decode cb_H_perform 149 = .ok (.aload_n 1, 1) := by decide +kernel
theorem dc_H_perform_150 : decode cb_H_perform 150 = .ok (.iload_n 3, 1) := by decide +kernel
theorem dc_H_perform_151 : decode cb_H_perform 151 = .ok (.invokestatic 213, 3) := by decide +kernel
theorem dc_H_perform_154 : decode cb_H_perform 154 = .ok (.ireturn, 1) := by decide +kernel
theorem dc_H_perform_155 : decode cb_H_perform 155 = .ok (.aload_n 0, 1) := by decide +kernel
theorem dc_H_perform_156 : decode cb_H_perform 156 = .ok (.aload_n 1, 1) := by decide +kernel
theorem dc_H_perform_157 : decode cb_H_perform 157 = .ok (.iload_n 3, 1) := by decide +kernel
theorem dc_H_perform_158 : decode cb_H_perform 158 = .ok (.iconst 1, 1) := by decide +kernel
theorem dc_H_perform_159 : decode cb_H_perform 159 = .ok (.invokevirtual 216, 3) := by decide +kernel
theorem dc_H_perform_162 : decode cb_H_perform 162 = .ok (.goto 150, 3) := by decide +kernel
theorem dc_H_perform_165 : decode cb_H_perform 165 = .ok (.aload_n 0, 1) := by decide +kernel
theorem dc_H_perform_166 : decode cb_H_perform 166 = .ok (.aload_n 1, 1) := by decide +kernel
theorem dc_H_perform_167 : decode cb_H_perform 167 = .ok (.iload_n 3, 1) := by decide +kernel
theorem dc_H_perform_168 : decode cb_H_perform 168 = .ok (.invokevirtual 219, 3) := by decide +kernel
theorem dc_H_perform_171 : decode cb_H_perform 171 = .ok (.ireturn, 1) := by decide +kernel
theorem dc_H_perform_172 : decode cb_H_perform 172 = .ok (.aload_n 0, 1) := by decide +kernel
theorem dc_H_perform_173 : decode cb_H_perform 173 = .ok (.aload_n 1, 1) := by decide +kernel
theorem dc_H_perform_174 : decode cb_H_perform 174 = .ok (.iload_n 3, 1) := by decide +kernel
theorem dc_H_perform_175 : decode cb_H_perform 175 = .ok (.iload 4, 2) := by decide +kernel
theorem dc_H_perform_177 : decode cb_H_perform 177 = .ok (.invokevirtual 222, 3) := by decide +kernel
theorem dc_H_perform_180 : decode cb_H_perform 180 = .ok (.goto 132, 3) := by decide +kernel
theorem dc_H_perform_183 : decode cb_H_perform 183 = .ok (.aload_n 0, 1) := by decide +kernel
theorem dc_H_perform_184 : decode cb_H_perform 184 = .ok (.aload_n 1, 1) := by decide +kernel
theorem dc_H_perform_185 : decode cb_H_perform 185 = .ok (.iload_n 3, 1) := by decide +kernel
theorem dc_H_perform_186 : decode cb_H_perform 186 = .ok (.iload 4, 2) := by decide +kernel
theorem dc_H_perform_188 : decode cb_H_perform 188 = .ok (.invokevirtual 225, 3) := by decide +kernel
theorem dc_H_perform_191 : decode cb_H_perform 191 = .ok (.ireturn, 1) := by decide +kernel
theorem dc_H_perform_192 : decode cb_H_perform 192 = .ok (.aload_n 0, 1) := by decide +kernel
theorem dc_H_perform_193 : decode cb_H_perform 193 = .ok (.aload_n 0, 1) := by decide +kernel
theorem dc_H_perform_194 : decode cb_H_perform 194 = .ok (.getfield 27, 3) := by decide +kernel
theorem dc_H_perform_197 : decode cb_H_perform 197 = .ok (.iload_n 3, 1) := by decide +kernel
theorem dc_H_perform_198 : decode cb_H_perform 198 = .ok (.aaload, 1) := by decide +kernel
theorem dc_H_perform_199 : decode cb_H_perform 199 = .ok (.invokevirtual 228, 3) := by decide +kernel
theorem dc_H_perform_202 : decode cb_H_perform 202 = .ok (.goto 110, 3) := by decide +kernel
theorem dc_H_perform_205 : decode cb_H_perform 205 = .ok (.aload_n 0, 1) := by decide +kernel
theorem dc_H_perform_206 : decode cb_H_perform 206 = .ok (.aload_n 0, 1) := by decide +kernel
theorem dc_H_perform_207 : decode cb_H_perform 207 = .ok (.getfield 27, 3) := by decide +kernel
theorem dc_H_perform_210 : decode cb_H_perform 210 = .ok (.iload_n 3, 1) := by decide +kernel
theorem dc_H_perform_211 : decode cb_H_perform 211 = .ok (.aaload, 1) := by decide +kernel
theorem dc_H_perform_212 : decode cb_H_perform 212 = .ok (.invokevirtual 232, 3) := by decide +kernel
theorem dc_H_perform_215 : decode cb_H_perform 215 = .ok (.goto 97, 3) := by decide +kernel
theorem dc_H_perform_218 : decode cb_H_perform 218 = .ok (.aload_n 0, 1) := by decide +kernel
theorem dc_H_perform_219 : decode cb_H_perform 219 = .ok (.getfield 11, 3) := by decide +kernel
theorem dc_H_perform_222 : decode cb_H_perform 222 = .ok (.iload_n 3, 1) := by decide +kernel
theorem dc_H_perform_223 : decode cb_H_perform 223 = .ok (.aaload, 1) := by decide +kernel
theorem dc_H_perform_224 : decode cb_H_perform 224 = .ok (.invokestatic 235, 3) := by decide +kernel
theorem dc_H_perform_227 : decode cb_H_perform 227 = .ok (.ireturn, 1) := by decide +kernel
theorem dc_H_perform_228 : decode cb_H_perform 228 = .ok (.aload_n 0, 1) := by decide +kernel
theorem dc_H_perform_229 : decode cb_H_perform 229 = .ok (.aload_n 1, 1) := by decide +kernel
theorem dc_H_perform_230 : decode cb_H_perform 230 = .ok (.iload_n 3, 1) := by decide +kernel
theorem dc_H_perform_231 : decode cb_H_perform 231 = .ok (.iload 4, 2) := by decide +kernel
theorem dc_H_perform_233 : decode cb_H_perform 233 = .ok (.invokevirtual 239, 3) := by decide +kernel
theorem dc_H_perform_236 : decode cb_H_perform 236 = .ok (.ireturn, 1) := by decide +kernel
theorem dc_H_perform_237 : decode cb_H_perform 237 = .ok (.aload_n 0, 1) := by decide +kernel
theorem dc_H_perform_238 : decode cb_H_perform 238 = .ok (.aload_n 0, 1) := by decide +kernel
theorem dc_H_perform_239 : decode cb_H_perform 239 = .ok (.getfield 11, 3) := by decide +kernel
theorem dc_H_perform_242 : decode cb_H_perform 242 = .ok (.iload_n 3, 1) := by decide +kernel
theorem dc_H_perform_243 : decode cb_H_perform 243 = .ok (.aaload, 1) := by decide +kernel
theorem dc_H_perform_244 : decode cb_H_perform 244 = .ok (.invokevirtual 99, 3) := by decide +kernel
theorem dc_H_perform_247 : decode cb_H_perform 247 = .ok (.goto 65, 3) := by decide +kernel
theorem dc_H_perform_250 : decode cb_H_perform 250 = .ok (.aload_n 1, 1) := by decide +kernel
theorem dc_H_perform_251 : decode cb_H_perform 251 = .ok (.iload_n 3, 1) := by decide +kernel
theorem dc_H_perform_252 : decode cb_H_perform 252 = .ok (.putfield 129, 3) := by decide +kernel
theorem dc_H_perform_255 : decode cb_H_perform 255 = .ok (.goto 57, 3) := by decide +kernel
theorem dc_H_perform_258 : decode cb_H_perform 258 = .ok (.aload_n 1, 1) := by decide +kernel
theorem dc_H_perform_259 : decode cb_H_perform 259 = .ok (.iload_n 3, 1) := by decide +kernel
theorem dc_H_perform_260 : decode cb_H_perform 260 = .ok (.iload 4, 2) := by decide +kernel
theorem dc_H_perform_262 : decode cb_H_perform 262 = .ok (.invokestatic 242, 3) := by decide +kernel
theorem dc_H_perform_265 : decode cb_H_perform 265 = .ok (.ireturn, 1) := by decide +kernel
theorem dc_H_perform_266 : decode cb_H_perform 266 = .ok (.aload_n 1, 1) := by decide +kernel
theorem dc_H_perform_267 : decode cb_H_perform 267 = .ok (.iload_n 3, 1) := by decide +kernel
theorem dc_H_perform_268 : decode cb_H_perform 268 = .ok (.putfield 109, 3) := by decide +kernel
theorem dc_H_perform_271 : decode cb_H_perform 271 = .ok (.goto 41, 3) := by decide +kernel
theorem dc_H_perform_274 : decode cb_H_perform 274 = .ok (.aload_n 0, 1) := by decide +kernel
theorem dc_H_perform_275 : decode cb_H_perform 275 = .ok (.aload_n 1, 1) := by decide +kernel
theorem dc_H_perform_276 : decode cb_H_perform 276 = .ok (.iload_n 3, 1) := by decide +kernel
theorem dc_H_perform_277 : decode cb_H_perform 277 = .ok (.iload 4, 2) := by decide +kernel
theorem dc_H_perform_279 : decode cb_H_perform 279 = .ok (.invokevirtual 245, 3) := by decide +kernel
theorem dc_H_perform_282 : decode cb_H_perform 282 = .ok (.goto 30, 3) := by decide +kernel
theorem dc_H_perform_285 : decode cb_H_perform 285 = .ok (.aload_n 0, 1) := by decide +kernel
theorem dc_H_perform_286 : decode cb_H_perform 286 = .ok (.aload_n 0, 1) := by decide +kernel
theorem dc_H_perform_287 : decode cb_H_perform 287 = .ok (.aload_n 1, 1) := by decide +kernel
theorem dc_H_perform_288 : decode cb_H_perform 288 = .ok (.iload_n 3, 1) := by decide +kernel
theorem dc_H_perform_289 : decode cb_H_perform 289 = .ok (.invokevirtual 102, 3) := by decide +kernel
theorem dc_H_perform_292 : decode cb_H_perform 292 = .ok (.invokevirtual 248, 3) := by decide +kernel
theorem dc_H_perform_295 : decode cb_H_perform 295 = .ok (.goto 17, 3) := by decide +kernel
theorem dc_H_perform_298 : decode cb_H_perform 298 = .ok (.aload_n 0, 1) := by decide +kernel
theorem dc_H_perform_299 : decode cb_H_perform 299 = .ok (.aload_n 1, 1) := by decide +kernel
theorem dc_H_perform_300 : decode cb_H_perform 300 = .ok (.aload_n 0, 1) := by decide +kernel
theorem dc_H_perform_301 : decode cb_H_perform 301 = .ok (.aload_n 1, 1) := by decide +kernel
theorem dc_H_perform_302 : decode cb_H_perform 302 = .ok (.iload_n 3, 1) := by decide +kernel
theorem dc_H_perform_303 : decode cb_H_perform 303 = .ok (.invokevirtual 102, 3) := by decide +kernel
theorem dc_H_perform_306 : decode cb_H_perform 306 = .ok (.invokevirtual 186, 3) := by decide +kernel
theorem dc_H_perform_309 : decode cb_H_perform 309 = .ok (.goto 3, 3) := by decide +kernel
theorem dc_H_perform_312 : decode cb_H_perform 312 = .ok (.iconst 0, 1) := by decide +kernel
theorem dc_H_perform_313 : decode cb_H_perform 313 = .ok (.ireturn, 1) := by decide +kernel
theorem dc_H_takeTurn_0 : decode cb_H_takeTurn 0 = .ok (.aload_n 0, 1) := by decide +kernel
theorem dc_H_takeTurn_1 : decode cb_H_takeTurn 1 = .ok (.aload_n 1, 1) := by decide +kernel
theorem dc_H_takeTurn_2 : decode cb_H_takeTurn 2 = .ok (.getfield 176, 3) := by decide +kernel
theorem dc_H_takeTurn_5 : decode cb_H_takeTurn 5 = .ok (.putfield 43, 3) := by decide +kernel
theorem dc_H_takeTurn_8 : decode cb_H_takeTurn 8 = .ok (.aload_n 0, 1) := by decide +kernel
theorem dc_H_takeTurn_9 : decode cb_H_takeTurn 9 = .ok (.dup, 1) := by decide +kernel
theorem dc_H_takeTurn_10 : decode cb_H_takeTurn 10 = .ok (.getfield 158, 3) := by decide +kernel
theorem dc_H_takeTurn_13 : decode cb_H_takeTurn 13 = .ok (.iconst 1, 1) := by decide +kernel
theorem dc_H_takeTurn_14 : decode cb_H_takeTurn 14 = .ok (.iadd, 1) := by decide +kernel
theorem dc_H_takeTurn_15 : decode cb_H_takeTurn 15 = .ok (.putfield 158, 3) := by decide +kernel
theorem dc_H_takeTurn_18 : decode cb_H_takeTurn 18 = .ok (.aload_n 1, 1) := by decide +kernel
theorem dc_H_takeTurn_19 : decode cb_H_takeTurn 19 = .ok (.getfield 179, 3) := by decide +kernel
theorem dc_H_takeTurn_22 : decode cb_H_takeTurn 22 = .ok (.ifCond .eq 10, 3) := by decide +kernel
theorem dc_H_takeTurn_25 : decode cb_H_takeTurn 25 = .ok (.aload_n 0, 1) := by decide +kernel
theorem dc_H_takeTurn_26 : decode cb_H_takeTurn 26 = .ok (.aload_n 1, 1) := by decide +kernel
theorem dc_H_takeTurn_27 : decode cb_H_takeTurn 27 = .ok (.bipush 7, 2) := by decide +kernel
theorem dc_H_takeTurn_29 : decode cb_H_takeTurn 29 = .ok (.invokevirtual 182, 3) := by decide +kernel
theorem dc_H_takeTurn_32 : decode cb_H_takeTurn 32 = .ok (.aload_n 1, 1) := by decide +kernel
theorem dc_H_takeTurn_33 : decode cb_H_takeTurn 33 = .ok (.getfield 63, 3) := by decide +kernel
theorem dc_H_takeTurn_36 : decode cb_H_takeTurn 36 = .ok (.astore_n 2, 1) := by decide +kernel
theorem dc_H_takeTurn_37 : decode cb_H_takeTurn 37 = .ok (.iconst 0, 1) := by decide +kernel
theorem dc_H_takeTurn_38 : decode cb_H_takeTurn 38 = .ok (.istore_n 3, 1) := by decide +kernel
theorem dc_H_takeTurn_39 : decode cb_H_takeTurn 39 = .ok (.iload_n 3, 1) := by decide +kernel
theorem dc_H_takeTurn_40 : decode cb_H_takeTurn 40 = .ok (.aload_n 0, 1) := by decide +kernel
theorem dc_H_takeTurn_41 : decode cb_H_takeTurn 41 = .ok (.getfield 39, 3) := by decide +kernel
theorem dc_H_takeTurn_44 : decode cb_H_takeTurn 44 = .ok (.if_icmp .ge 98, 3) := by decide +kernel
theorem dc_H_takeTurn_47 : decode cb_H_takeTurn 47 = .ok (.aload_n 1, 1) := by decide +kernel
theorem dc_H_takeTurn_48 : decode cb_H_takeTurn 48 = .ok (.getfield 106, 3) := by decide +kernel
theorem dc_H_takeTurn_51 : decode cb_H_takeTurn 51 = .ok (.iconst 1, 1) := by decide +kernel
theorem dc_H_takeTurn_52 : decode cb_H_takeTurn 52 = .ok (.if_icmp .eq 4, 3) := by decide +kernel
theorem dc_H_takeTurn_55 : decode cb_H_takeTurn 55 = .ok (.return_, 1) := by decide +kernel
theorem dc_H_takeTurn_56 : decode cb_H_takeTurn 56 = .ok (.aload_n 1, 1) := by decide +kernel
theorem dc_H_takeTurn_57 : decode cb_H_takeTurn 57 = .ok (.getfield 109, 3) := by decide +kernel
theorem dc_H_takeTurn_60 : decode cb_H_takeTurn 60 = .ok (.istore 4, 2) := by decide +kernel
theorem dc_H_takeTurn_62 : decode cb_H_takeTurn 62 = .ok (.iload 4, 2) := by decide +kernel
theorem dc_H_takeTurn_64 : decode cb_H_takeTurn 64 = .ok (.aload_n 2, 1) := by decide +kernel
theorem dc_H_takeTurn_65 : decode cb_H_takeTurn 65 = .ok (.getfield 67, 3) := by decide +kernel
theorem dc_H_takeTurn_68 : decode cb_H_takeTurn 68 = .ok (.if_icmp .lt 10, 3) := by decide +kernel
theorem dc_H_takeTurn_71 : decode cb_H_takeTurn 71 = .ok (.aload_n 0, 1) := by decide +kernel
theorem dc_H_takeTurn_72 : decode cb_H_takeTurn 72 = .ok (.aload_n 1, 1) := by decide +kernel
theorem dc_H_takeTurn_73 : decode cb_H_takeTurn 73 = .ok (.iconst 0, 1) := by decide +kernel
theorem dc_H_takeTurn_74 : decode cb_H_takeTurn 74 = .ok (.invokevirtual 186, 3) := by decide +kernel
theorem dc_H_takeTurn_77 : decode cb_H_takeTurn 77 = .ok (.return_, 1) := by decide +kernel
theorem dc_H_takeTurn_78 : decode cb_H_takeTurn 78 = .ok (.aload_n 0, 1) := by decide +kernel
theorem dc_H_takeTurn_79 : decode cb_H_takeTurn 79 = .ok (.aload_n 1, 1) := by decide +kernel
theorem dc_H_takeTurn_80 : decode cb_H_takeTurn 80 = .ok (.invokevirtual 189, 3) := by decide +kernel
theorem dc_H_takeTurn_83 : decode cb_H_takeTurn 83 = .ok (.aload_n 0, 1) := by decide +kernel
theorem dc_H_takeTurn_84 : decode cb_H_takeTurn 84 = .ok (.aload_n 1, 1) := by decide +kernel
theorem dc_H_takeTurn_85 : decode cb_H_takeTurn 85 = .ok (.aload_n 2, 1) := by decide +kernel
theorem dc_H_takeTurn_86 : decode cb_H_takeTurn 86 = .ok (.getfield 192, 3) := by decide +kernel
theorem dc_H_takeTurn_89 : decode cb_H_takeTurn 89 = .ok (.iload 4, 2) := by decide +kernel
theorem dc_H_takeTurn_91 : decode cb_H_takeTurn 91 = .ok (.iaload, 1) := by decide +kernel
theorem dc_H_takeTurn_92 : decode cb_H_takeTurn 92 = .ok (.aload_n 2, 1) := by decide +kernel
theorem dc_H_takeTurn_93 : decode cb_H_takeTurn 93 = .ok (.getfield 195, 3) := by decide +kernel
theorem dc_H_takeTurn_96 : decode cb_H_takeTurn 96 = .ok (.iload 4, 2) := by decide +kernel
theorem dc_H_takeTurn_98 : decode cb_H_takeTurn 98 = .ok (.iaload, 1) := by decide +kernel
theorem dc_H_takeTurn_99 : decode cb_H_takeTurn 99 = .ok (.aload_n 2, 1) := by decide +kernel
theorem dc_H_takeTurn_100 : decode cb_H_takeTurn 100 = .ok (.getfield 198, 3) := by decide +kernel
theorem dc_H_takeTurn_103 : decode cb_H_takeTurn 103 = .ok (.iload 4, 2) := by decide +kernel
theorem dc_H_takeTurn_105 : decode cb_H_takeTurn 105 = .ok (.iaload, 1) := by decide +kernel
theorem dc_H_takeTurn_106 : decode cb_H_takeTurn 106 = .ok (.invokevirtual 201, 3) := by decide +kernel
theorem dc_H_takeTurn_109 : decode cb_H_takeTurn 109 = .ok (.istore 5, 2) := by decide +kernel
theorem dc_H_takeTurn_111 : decode cb_H_takeTurn 111 = .ok (.iload 5, 2) := by decide +kernel
theorem dc_H_takeTurn_113 : decode cb_H_takeTurn 113 = .ok (.ifCond .eq 10, 3) := by decide +kernel
theorem dc_H_takeTurn_116 : decode cb_H_takeTurn 116 = .ok (.aload_n 0, 1) := by decide +kernel
theorem dc_H_takeTurn_117 : decode cb_H_takeTurn 117 = .ok (.aload_n 1, 1) := by decide +kernel
theorem dc_H_takeTurn_118 : decode cb_H_takeTurn 118 = .ok (.iload 5, 2) := by decide +kernel
theorem dc_H_takeTurn_120 : decode cb_H_takeTurn 120 = .ok (.invokevirtual 182, 3) := by decide +kernel
theorem dc_H_takeTurn_123 : decode cb_H_takeTurn 123 = .ok (.aload_n 2, 1) := by decide +kernel
theorem dc_H_takeTurn_124 : decode cb_H_takeTurn 124 = .ok (.getfield 192, 3) := by decide +kernel
theorem dc_H_takeTurn_127 : decode cb_H_takeTurn 127 = .ok (.iload 4, 2) := by decide +kernel
theorem dc_H_takeTurn_129 : decode cb_H_takeTurn 129 = .ok (.iaload, 1) := by decide +kernel
theorem dc_H_takeTurn_130 : decode cb_H_takeTurn 130 = .ok (.bipush 20, 2) := by decide +kernel
theorem dc_H_takeTurn_132 : decode cb_H_takeTurn 132 = .ok (.if_icmp .ne 4, 3) := by decide +kernel
theorem dc_H_takeTurn_135 : decode cb_H_takeTurn 135 = .ok (.return_, 1) := by decide +kernel
theorem dc_H_takeTurn_136 : decode cb_H_takeTurn 136 = .ok (.iinc 3 1, 3) := by decide +kernel
theorem dc_H_takeTurn_139 : decode cb_H_takeTurn 139 = .ok (.goto (-100), 3) := by decide +kernel
theorem dc_H_takeTurn_142 : decode cb_H_takeTurn 142 = .ok (.return_, 1) := by decide +kernel
theorem dc_H_run_0 : decode cb_H_run 0 = .ok (.iload_n 1, 1) := by decide +kernel
theorem dc_H_run_1 : decode cb_H_run 1 = .ok (.iconst 1, 1) := by decide +kernel
theorem dc_H_run_2 : decode cb_H_run 2 = .ok (.bipush 40, 2) := by decide +kernel
theorem dc_H_run_4 : decode cb_H_run 4 = .ok (.invokestatic 86, 3) := by decide +kernel
theorem dc_H_run_7 : decode cb_H_run 7 = .ok (.aload_n 0, 1) := by decide +kernel
theorem dc_H_run_8 : decode cb_H_run 8 = .ok (.getfield 89, 3) := by decide +kernel
theorem dc_H_run_11 : decode cb_H_run 11 = .ok (.istore_n 2, 1) := by decide +kernel
theorem dc_H_run_12 : decode cb_H_run 12 = .ok (.iconst 0, 1) := by decide +kernel
theorem dc_H_run_13 : decode cb_H_run 13 = .ok (.istore_n 3, 1) := by decide +kernel
theorem dc_H_run_14 : decode cb_H_run 14 = .ok (.iload_n 3, 1) := by decide +kernel
theorem dc_H_run_15 : decode cb_H_run 15 = .ok (.iload_n 1, 1) := by decide +kernel
theorem dc_H_run_16 : decode cb_H_run 16 = .ok (.if_icmp .ge 35, 3) := by decide +kernel
theorem dc_H_run_19 : decode cb_H_run 19 = .ok (.aload_n 0, 1) := by decide +kernel
theorem dc_H_run_20 : decode cb_H_run 20 = .ok (.invokevirtual 92, 3) := by decide +kernel
theorem dc_H_run_23 : decode cb_H_run 23 = .ok (.istore 4, 2) := by decide +kernel
theorem dc_H_run_25 : decode cb_H_run 25 = .ok (.iload 4, 2) := by decide +kernel
theorem dc_H_run_27 : decode cb_H_run 27 = .ok (.iconst (-1), 1) := by decide +kernel
theorem dc_H_run_28 : decode cb_H_run 28 = .ok (.if_icmp .ne 6, 3) := by decide +kernel
theorem dc_H_run_31 : decode cb_H_run 31 = .ok (.goto 20, 3) := by decide +kernel
theorem dc_H_run_34 : decode cb_H_run 34 = .ok (.aload_n 0, 1) := by decide +kernel
theorem dc_H_run_35 : decode cb_H_run 35 = .ok (.aload_n 0, 1) := by decide +kernel
theorem dc_H_run_36 : decode cb_H_run 36 = .ok (.getfield 11, 3) := by decide +kernel
theorem dc_H_run_39 : decode cb_H_run 39 = .ok (.iload 4, 2) := by decide +kernel
theorem dc_H_run_41 : decode cb_H_run 41 = .ok (.aaload, 1) := by decide +kernel
theorem dc_H_run_42 : decode cb_H_run 42 = .ok (.invokevirtual 96, 3) := by decide +kernel
theorem dc_H_run_45 : decode cb_H_run 45 = .ok (.iinc 3 1, 3) := by decide +kernel
theorem dc_H_run_48 : decode cb_H_run 48 = .ok (.goto (-34), 3) := by decide +kernel
theorem dc_H_run_51 : decode cb_H_run 51 = .ok (.aload_n 0, 1) := by decide +kernel
theorem dc_H_run_52 : decode cb_H_run 52 = .ok (.getfield 89, 3) := by decide +kernel
theorem dc_H_run_55 : decode cb_H_run 55 = .ok (.iload_n 2, 1) := by decide +kernel
theorem dc_H_run_56 : decode cb_H_run 56 = .ok (.isub, 1) := by decide +kernel
theorem dc_H_run_57 : decode cb_H_run 57 = .ok (.ireturn, 1) := by decide +kernel
theorem dc_H_slice_0 : decode cb_H_slice 0 = .ok (.iload_n 1, 1) := by decide +kernel
theorem dc_H_slice_1 : decode cb_H_slice 1 = .ok (.iconst 1, 1) := by decide +kernel
theorem dc_H_slice_2 : decode cb_H_slice 2 = .ok (.bipush 20, 2) := by decide +kernel
theorem dc_H_slice_4 : decode cb_H_slice 4 = .ok (.invokestatic 86, 3) := by decide +kernel
theorem dc_H_slice_7 : decode cb_H_slice 7 = .ok (.aload_n 0, 1) := by decide +kernel
theorem dc_H_slice_8 : decode cb_H_slice 8 = .ok (.getfield 39, 3) := by decide +kernel
theorem dc_H_slice_11 : decode cb_H_slice 11 = .ok (.istore_n 2, 1) := by decide +kernel
theorem dc_H_slice_12 : decode cb_H_slice 12 = .ok (.aload_n 0, 1) := by decide +kernel
theorem dc_H_slice_13 : decode cb_H_slice 13 = .ok (.iload_n 1, 1) := by decide +kernel
theorem dc_H_slice_14 : decode cb_H_slice 14 = .ok (.putfield 39, 3) := by decide +kernel
theorem dc_H_slice_17 : decode cb_H_slice 17 = .ok (.iload_n 2, 1) := by decide +kernel
theorem dc_H_slice_18 : decode cb_H_slice 18 = .ok (.ireturn, 1) := by decide +kernel
theorem dc_H_add_0 : decode cb_H_add 0 = .ok (.iload_n 1, 1) := by decide +kernel
theorem dc_H_add_1 : decode cb_H_add 1 = .ok (.iconst 5, 1) := by decide +kernel
theorem dc_H_add_2 : decode cb_H_add 2 = .ok (.invokestatic 46, 3) := by decide +kernel
theorem dc_H_add_5 : decode cb_H_add 5 = .ok (.iload_n 2, 1) := by decide +kernel
theorem dc_H_add_6 : decode cb_H_add 6 = .ok (.getstatic 50, 3) := by decide +kernel
theorem dc_H_add_9 : decode cb_H_add 9 = .ok (.arraylength, 1) := by decide +kernel
theorem dc_H_add_10 : decode cb_H_add 10 = .ok (.invokestatic 46, 3) := by decide +kernel
theorem dc_H_add_13 : decode cb_H_add 13 = .ok (.iload_n 3, 1) := by decide +kernel
theorem dc_H_add_14 : decode cb_H_add 14 = .ok (.getstatic 50, 3) := by decide +kernel
theorem dc_H_add_17 : decode cb_H_add 17 = .ok (.iload_n 2, 1) := by decide +kernel
theorem dc_H_add_18 : decode cb_H_add 18 = .ok (.iaload, 1) := by decide +kernel
theorem dc_H_add_19 : decode cb_H_add 19 = .ok (.invokestatic 53, 3) := by decide +kernel
theorem dc_H_add_22 : decode cb_H_add 22 = .ok (.iload 4, 2) := by decide +kernel
theorem dc_H_add_24 : decode cb_H_add 24 = .ok (.getstatic 56, 3) := by decide +kernel
theorem dc_H_add_27 : decode cb_H_add 27 = .ok (.iload_n 2, 1) := by decide +kernel
theorem dc_H_add_28 : decode cb_H_add 28 = .ok (.iaload, 1) := by decide +kernel
theorem dc_H_add_29 : decode cb_H_add 29 = .ok (.invokestatic 53, 3) := by decide +kernel
theorem dc_H_add_32 : decode cb_H_add 32 = .ok (.aload_n 0, 1) := by decide +kernel
theorem dc_H_add_33 : decode cb_H_add 33 = .ok (.getfield 11, 3) := by decide +kernel
theorem dc_H_add_36 : decode cb_H_add 36 = .ok (.iload_n 1, 1) := by decide +kernel
theorem dc_H_add_37 : decode cb_H_add 37 = .ok (.aaload, 1) := by decide +kernel
theorem dc_H_add_38 : decode cb_H_add 38 = .ok (.invokestatic 59, 3) := by decide +kernel
theorem dc_H_add_41 : decode cb_H_add 41 = .ok (.aload_n 0, 1) := by decide +kernel
theorem dc_H_add_42 : decode cb_H_add 42 = .ok (.getfield 11, 3) := by decide +kernel
theorem dc_H_add_45 : decode cb_H_add 45 = .ok (.iload_n 1, 1) := by decide +kernel
theorem dc_H_add_46 : decode cb_H_add 46 = .ok (.aaload, 1) := by decide +kernel
theorem dc_H_add_47 : decode cb_H_add 47 = .ok (.getfield 63, 3) := by decide +kernel
theorem dc_H_add_50 : decode cb_H_add 50 = .ok (.astore 5, 2) := by decide +kernel
theorem dc_H_add_52 : decode cb_H_add 52 = .ok (.aload 5, 2) := by decide +kernel
theorem dc_H_add_54 : decode cb_H_add 54 = .ok (.getfield 67, 3) := by decide +kernel
theorem dc_H_add_57 : decode cb_H_add 57 = .ok (.bipush 24, 2) := by decide +kernel
theorem dc_H_add_59 : decode cb_H_add 59 = .ok (.if_icmp .lt 11, 3) := by decide +kernel
theorem dc_H_add_62 : decode cb_H_add 62 = .ok (.new 72, 3) := by decide +kernel
theorem dc_H_add_65 : decode cb_H_add 65 = .ok (.dup, 1) := by decide +kernel
theorem dc_H_add_66 : decode cb_H_add 66 = .ok (.invokespecial 74, 3) := by decide +kernel
theorem dc_H_add_69 : decode cb_H_add 69 = .ok (.athrow, 1) := by decide +kernel
theorem dc_H_add_70 : decode cb_H_add 70 = .ok (.aload 5, 2) := by decide +kernel
theorem dc_H_add_72 : decode cb_H_add 72 = .ok (.iload_n 2, 1) := by decide +kernel
theorem dc_H_add_73 : decode cb_H_add 73 = .ok (.iload_n 3, 1) := by decide +kernel
theorem dc_H_add_74 : decode cb_H_add 74 = .ok (.iload 4, 2) := by decide +kernel
theorem dc_H_add_76 : decode cb_H_add 76 = .ok (.invokevirtual 75, 3) := by decide +kernel
theorem dc_H_add_79 : decode cb_H_add 79 = .ok (.aload 5, 2) := by decide +kernel
theorem dc_H_add_81 : decode cb_H_add 81 = .ok (.getfield 67, 3) := by decide +kernel
theorem dc_H_add_84 : decode cb_H_add 84 = .ok (.ireturn, 1) := by decide +kernel
theorem dc_H_clear_0 : decode cb_H_clear 0 = .ok (.iload_n 1, 1) := by decide +kernel
theorem dc_H_clear_1 : decode cb_H_clear 1 = .ok (.iconst 5, 1) := by decide +kernel
theorem dc_H_clear_2 : decode cb_H_clear 2 = .ok (.invokestatic 46, 3) := by decide +kernel
theorem dc_H_clear_5 : decode cb_H_clear 5 = .ok (.aload_n 0, 1) := by decide +kernel
theorem dc_H_clear_6 : decode cb_H_clear 6 = .ok (.getfield 11, 3) := by decide +kernel
theorem dc_H_clear_9 : decode cb_H_clear 9 = .ok (.iload_n 1, 1) := by decide +kernel
theorem dc_H_clear_10 : decode cb_H_clear 10 = .ok (.aaload, 1) := by decide +kernel
theorem dc_H_clear_11 : decode cb_H_clear 11 = .ok (.invokestatic 59, 3) := by decide +kernel
theorem dc_H_clear_14 : decode cb_H_clear 14 = .ok (.aload_n 0, 1) := by decide +kernel
theorem dc_H_clear_15 : decode cb_H_clear 15 = .ok (.getfield 11, 3) := by decide +kernel
theorem dc_H_clear_18 : decode cb_H_clear 18 = .ok (.iload_n 1, 1) := by decide +kernel
theorem dc_H_clear_19 : decode cb_H_clear 19 = .ok (.aaload, 1) := by decide +kernel
theorem dc_H_clear_20 : decode cb_H_clear 20 = .ok (.getfield 63, 3) := by decide +kernel
theorem dc_H_clear_23 : decode cb_H_clear 23 = .ok (.getfield 67, 3) := by decide +kernel
theorem dc_H_clear_26 : decode cb_H_clear 26 = .ok (.istore_n 2, 1) := by decide +kernel
theorem dc_H_clear_27 : decode cb_H_clear 27 = .ok (.aload_n 0, 1) := by decide +kernel
theorem dc_H_clear_28 : decode cb_H_clear 28 = .ok (.getfield 11, 3) := by decide +kernel
theorem dc_H_clear_31 : decode cb_H_clear 31 = .ok (.iload_n 1, 1) := by decide +kernel
theorem dc_H_clear_32 : decode cb_H_clear 32 = .ok (.aaload, 1) := by decide +kernel
theorem dc_H_clear_33 : decode cb_H_clear 33 = .ok (.getfield 63, 3) := by decide +kernel
theorem dc_H_clear_36 : decode cb_H_clear 36 = .ok (.iconst 0, 1) := by decide +kernel
theorem dc_H_clear_37 : decode cb_H_clear 37 = .ok (.putfield 67, 3) := by decide +kernel
theorem dc_H_clear_40 : decode cb_H_clear 40 = .ok (.iload_n 2, 1) := by decide +kernel
theorem dc_H_clear_41 : decode cb_H_clear 41 = .ok (.ireturn, 1) := by decide +kernel
theorem dc_H_start_0 : decode cb_H_start 0 = .ok (.iload_n 1, 1) := by decide +kernel
theorem dc_H_start_1 : decode cb_H_start 1 = .ok (.iconst 5, 1) := by decide +kernel
theorem dc_H_start_2 : decode cb_H_start 2 = .ok (.invokestatic 46, 3) := by decide +kernel
theorem dc_H_start_5 : decode cb_H_start 5 = .ok (.aload_n 0, 1) := by decide +kernel
theorem dc_H_start_6 : decode cb_H_start 6 = .ok (.getfield 11, 3) := by decide +kernel
theorem dc_H_start_9 : decode cb_H_start 9 = .ok (.iload_n 1, 1) := by decide +kernel
theorem dc_H_start_10 : decode cb_H_start 10 = .ok (.aaload, 1) := by decide +kernel
theorem dc_H_start_11 : decode cb_H_start 11 = .ok (.invokevirtual 79, 3) := by decide +kernel
theorem dc_H_start_14 : decode cb_H_start 14 = .ok (.ifCond .eq 5, 3) := by decide +kernel
theorem dc_H_start_17 : decode cb_H_start 17 = .ok (.iconst 0, 1) := by decide +kernel
theorem dc_H_start_18 : decode cb_H_start 18 = .ok (.ireturn, 1) := by decide +kernel
theorem dc_H_start_19 : decode cb_H_start 19 = .ok (.aload_n 0, 1) := by decide +kernel
theorem dc_H_start_20 : decode cb_H_start 20 = .ok (.getfield 11, 3) := by decide +kernel
theorem dc_H_start_23 : decode cb_H_start 23 = .ok (.iload_n 1, 1) := by decide +kernel
theorem dc_H_start_24 : decode cb_H_start 24 = .ok (.aaload, 1) := by decide +kernel
theorem dc_H_start_25 : decode cb_H_start 25 = .ok (.invokevirtual 83, 3) := by decide +kernel
theorem dc_H_start_28 : decode cb_H_start 28 = .ok (.iconst 1, 1) := by decide +kernel
theorem dc_H_start_29 : decode cb_H_start 29 = .ok (.ireturn, 1) := by decide +kernel
theorem dc_H_interrupt_0 : decode cb_H_interrupt 0 = .ok (.iload_n 1, 1) := by decide +kernel
theorem dc_H_interrupt_1 : decode cb_H_interrupt 1 = .ok (.iconst 5, 1) := by decide +kernel
theorem dc_H_interrupt_2 : decode cb_H_interrupt 2 = .ok (.invokestatic 46, 3) := by decide +kernel
theorem dc_H_interrupt_5 : decode cb_H_interrupt 5 = .ok (.aload_n 0, 1) := by decide +kernel
theorem dc_H_interrupt_6 : decode cb_H_interrupt 6 = .ok (.getfield 11, 3) := by decide +kernel
theorem dc_H_interrupt_9 : decode cb_H_interrupt 9 = .ok (.iload_n 1, 1) := by decide +kernel
theorem dc_H_interrupt_10 : decode cb_H_interrupt 10 = .ok (.aaload, 1) := by decide +kernel
theorem dc_H_interrupt_11 : decode cb_H_interrupt 11 = .ok (.invokevirtual 79, 3) := by decide +kernel
theorem dc_H_interrupt_14 : decode cb_H_interrupt 14 = .ok (.ifCond .ne 5, 3) := by decide +kernel
theorem dc_H_interrupt_17 : decode cb_H_interrupt 17 = .ok (.iconst 0, 1) := by decide +kernel
theorem dc_H_interrupt_18 : decode cb_H_interrupt 18 = .ok (.ireturn, 1) := by decide +kernel
theorem dc_H_interrupt_19 : decode cb_H_interrupt 19 = .ok (.aload_n 0, 1) := by decide +kernel
theorem dc_H_interrupt_20 : decode cb_H_interrupt 20 = .ok (.aload_n 0, 1) := by decide +kernel
theorem dc_H_interrupt_21 : decode cb_H_interrupt 21 = .ok (.getfield 11, 3) := by decide +kernel
theorem dc_H_interrupt_24 : decode cb_H_interrupt 24 = .ok (.iload_n 1, 1) := by decide +kernel
theorem dc_H_interrupt_25 : decode cb_H_interrupt 25 = .ok (.aaload, 1) := by decide +kernel
theorem dc_H_interrupt_26 : decode cb_H_interrupt 26 = .ok (.invokevirtual 99, 3) := by decide +kernel
theorem dc_H_interrupt_29 : decode cb_H_interrupt 29 = .ok (.iconst 1, 1) := by decide +kernel
theorem dc_H_interrupt_30 : decode cb_H_interrupt 30 = .ok (.ireturn, 1) := by decide +kernel
theorem dc_H_global_0 : decode cb_H_global 0 = .ok (.iload_n 1, 1) := by decide +kernel
theorem dc_H_global_1 : decode cb_H_global 1 = .ok (.iconst 4, 1) := by decide +kernel
theorem dc_H_global_2 : decode cb_H_global 2 = .ok (.invokestatic 46, 3) := by decide +kernel
theorem dc_H_global_5 : decode cb_H_global 5 = .ok (.aload_n 0, 1) := by decide +kernel
theorem dc_H_global_6 : decode cb_H_global 6 = .ok (.getfield 32, 3) := by decide +kernel
theorem dc_H_global_9 : decode cb_H_global 9 = .ok (.iload_n 1, 1) := by decide +kernel
theorem dc_H_global_10 : decode cb_H_global 10 = .ok (.iaload, 1) := by decide +kernel
theorem dc_H_global_11 : decode cb_H_global 11 = .ok (.istore_n 3, 1) := by decide +kernel
theorem dc_H_global_12 : decode cb_H_global 12 = .ok (.aload_n 0, 1) := by decide +kernel
theorem dc_H_global_13 : decode cb_H_global 13 = .ok (.getfield 32, 3) := by decide +kernel
theorem dc_H_global_16 : decode cb_H_global 16 = .ok (.iload_n 1, 1) := by decide +kernel
theorem dc_H_global_17 : decode cb_H_global 17 = .ok (.iload_n 2, 1) := by decide +kernel
theorem dc_H_global_18 : decode cb_H_global 18 = .ok (.iastore, 1) := by decide +kernel
theorem dc_H_global_19 : decode cb_H_global 19 = .ok (.iload_n 3, 1) := by decide +kernel
theorem dc_H_global_20 : decode cb_H_global 20 = .ok (.ireturn, 1) := by decide +kernel
theorem dc_H_special_0 : decode cb_H_special 0 = .ok (.iload_n 1, 1) := by decide +kernel
theorem dc_H_special_1 : decode cb_H_special 1 = .ok (.iconst 5, 1) := by decide +kernel
theorem dc_H_special_2 : decode cb_H_special 2 = .ok (.invokestatic 46, 3) := by decide +kernel
theorem dc_H_special_5 : decode cb_H_special 5 = .ok (.iload_n 2, 1) := by decide +kernel
theorem dc_H_special_6 : decode cb_H_special 6 = .ok (.iconst 4, 1) := by decide +kernel
theorem dc_H_special_7 : decode cb_H_special 7 = .ok (.invokestatic 46, 3) := by decide +kernel
theorem dc_H_special_10 : decode cb_H_special 10 = .ok (.aload_n 0, 1) := by decide +kernel
theorem dc_H_special_11 : decode cb_H_special 11 = .ok (.aload_n 0, 1) := by decide +kernel
theorem dc_H_special_12 : decode cb_H_special 12 = .ok (.getfield 11, 3) := by decide +kernel
theorem dc_H_special_15 : decode cb_H_special 15 = .ok (.iload_n 1, 1) := by decide +kernel
theorem dc_H_special_16 : decode cb_H_special 16 = .ok (.aaload, 1) := by decide +kernel
theorem dc_H_special_17 : decode cb_H_special 17 = .ok (.iload_n 2, 1) := by decide +kernel
theorem dc_H_special_18 : decode cb_H_special 18 = .ok (.invokevirtual 102, 3) := by decide +kernel
theorem dc_H_special_21 : decode cb_H_special 21 = .ok (.ireturn, 1) := by decide +kernel
theorem dc_H_look_0 : decode cb_H_look 0 = .ok (.iload_n 1, 1) := by decide +kernel
theorem dc_H_look_1 : decode cb_H_look 1 = .ok (.iconst 5, 1) := by decide +kernel
theorem dc_H_look_2 : decode cb_H_look 2 = .ok (.invokestatic 46, 3) := by decide +kernel
theorem dc_H_look_5 : decode cb_H_look 5 = .ok (.aload_n 0, 1) := by decide +kernel
theorem dc_H_look_6 : decode cb_H_look 6 = .ok (.getfield 11, 3) := by decide +kernel
theorem dc_H_look_9 : decode cb_H_look 9 = .ok (.iload_n 1, 1) := by decide +kernel
theorem dc_H_look_10 : decode cb_H_look 10 = .ok (.aaload, 1) := by decide +kernel
theorem dc_H_look_11 : decode cb_H_look 11 = .ok (.astore_n 3, 1) := by decide +kernel
theorem dc_H_look_12 : decode cb_H_look 12 = .ok (.iload_n 2, 1) := by decide +kernel
theorem dc_H_look_13 : decode cb_H_look 13 = .ok (.tableswitch 122 0 9 #[55, 60, 65, 70, 78, 86, 99, 104, 109, 114], 55) := by decide +kernel
theorem dc_H_look_68 : decode cb_H_look 68 = .ok (.aload_n 3, 1) := by decide +kernel
theorem dc_H_look_69 : decode cb_H_look 69 = .ok (.getfield 106, 3) := by decide +kernel
theorem dc_H_look_72 : decode cb_H_look 72 = .ok (.ireturn, 1) := by decide +kernel
theorem dc_H_look_73 : decode cb_H_look 73 = .ok (.aload_n 3, 1) := by decide +kernel
theorem dc_H_look_74 : decode cb_H_look 74 = .ok (.getfield 109, 3) := by decide +kernel
theorem dc_H_look_77 : decode cb_H_look 77 = .ok (.ireturn, 1) := by decide +kernel
theorem dc_H_look_78 : decode cb_H_look 78 = .ok (.aload_n 3, 1) := by decide +kernel
theorem dc_H_look_79 : decode cb_H_look 79 = .ok (.getfield 112, 3) := by decide +kernel
theorem dc_H_look_82 : decode cb_H_look 82 = .ok (.ireturn, 1) := by decide +kernel
theorem dc_H_look_83 : decode cb_H_look 83 = .ok (.aload_n 3, 1) := by decide +kernel
theorem dc_H_look_84 : decode cb_H_look 84 = .ok (.getfield 115, 3) := by decide +kernel
theorem dc_H_look_87 : decode cb_H_look 87 = .ok (.getfield 119, 3) := by decide +kernel
theorem dc_H_look_90 : decode cb_H_look 90 = .ok (.ireturn, 1) := by decide +kernel
theorem dc_H_look_91 : decode cb_H_look 91 = .ok (.aload_n 3, 1) := by decide +kernel
theorem dc_H_look_92 : decode cb_H_look 92 = .ok (.getfield 122, 3) := by decide +kernel
theorem dc_H_look_95 : decode cb_H_look 95 = .ok (.getfield 119, 3) := by decide +kernel
theorem dc_H_look_98 : decode cb_H_look 98 = .ok (.ireturn, 1) := by decide +kernel
theorem dc_H_look_99 : decode cb_H_look 99 = .ok (.aload_n 3, 1) := by decide +kernel
theorem dc_H_look_100 : decode cb_H_look 100 = .ok (.getfield 125, 3) := by decide +kernel
theorem dc_H_look_103 : decode cb_H_look 103 = .ok (.ifCond .eq 7, 3) := by decide +kernel
theorem dc_H_look_106 : decode cb_H_look 106 = .ok (.iconst 1, 1) := by decide +kernel
theorem dc_H_look_107 : decode cb_H_look 107 = .ok (.goto 4, 3) := by decide +kernel
theorem dc_H_look_110 : decode cb_H_look 110 = .ok (.iconst 0, 1) := by decide +kernel
theorem dc_H_look_111 : decode cb_H_look 111 = .ok (.ireturn, 1) := by decide +kernel
theorem dc_H_look_112 : decode cb_H_look 112 = .ok (.aload_n 3, 1) := by decide +kernel
theorem dc_H_look_113 : decode cb_H_look 113 = .ok (.getfield 129, 3) := by decide +kernel
theorem dc_H_look_116 : decode cb_H_look 116 = .ok (.ireturn, 1) := by decide +kernel
theorem dc_H_look_117 : decode cb_H_look 117 = .ok (.aload_n 3, 1) := by decide +kernel
theorem dc_H_look_118 : decode cb_H_look 118 = .ok (.getfield 132, 3) := by decide +kernel
theorem dc_H_look_121 : decode cb_H_look 121 = .ok (.ireturn, 1) := by decide +kernel
theorem dc_H_look_122 : decode cb_H_look 122 = .ok (.aload_n 3, 1) := by decide +kernel
theorem dc_H_look_123 : decode cb_H_look 123 = .ok (.getfield 135, 3) := by decide +kernel
theorem dc_H_look_126 : decode cb_H_look 126 = .ok (.ireturn, 1) := by decide +kernel
theorem dc_H_look_127 : decode cb_H_look 127 = .ok (.aload_n 3, 1) := by decide +kernel
theorem dc_H_look_128 : decode cb_H_look 128 = .ok (.getfield 138, 3) := by decide +kernel
theorem dc_H_look_131 : decode cb_H_look 131 = .ok (.getfield 142, 3) := by decide +kernel
theorem dc_H_look_134 : decode cb_H_look 134 = .ok (.ireturn, 1) := by decide +kernel
theorem dc_H_look_135 : decode cb_H_look 135 = .ok (.new 143, 3) := by decide +kernel
theorem dc_H_look_138 : decode cb_H_look 138 = .ok (.dup, 1) := by decide +kernel
theorem dc_H_look_139 : decode cb_H_look 139 = .ok (.invokespecial 145, 3) := by decide +kernel
theorem dc_H_look_142 : decode cb_H_look 142 = .ok (.athrow, 1) := by decide +kernel
theorem dc_H_lock_0 : decode cb_H_lock 0 = .ok (.iload_n 1, 1) := by decide +kernel
theorem dc_H_lock_1 : decode cb_H_lock 1 = .ok (.iconst 3, 1) := by decide +kernel
theorem dc_H_lock_2 : decode cb_H_lock 2 = .ok (.invokestatic 46, 3) := by decide +kernel
theorem dc_H_lock_5 : decode cb_H_lock 5 = .ok (.iload_n 2, 1) := by decide +kernel
theorem dc_H_lock_6 : decode cb_H_lock 6 = .ok (.tableswitch 73 0 3 #[30, 40, 50, 63], 30) := by decide +kernel
theorem dc_H_lock_36 : decode cb_H_lock 36 = .ok (.aload_n 0, 1) := by decide +kernel
theorem dc_H_lock_37 : decode cb_H_lock 37 = .ok (.getfield 20, 3) := by decide +kernel
theorem dc_H_lock_40 : decode cb_H_lock 40 = .ok (.iload_n 1, 1) := by decide +kernel
theorem dc_H_lock_41 : decode cb_H_lock 41 = .ok (.aaload, 1) := by decide +kernel
theorem dc_H_lock_42 : decode cb_H_lock 42 = .ok (.getfield 146, 3) := by decide +kernel
theorem dc_H_lock_45 : decode cb_H_lock 45 = .ok (.ireturn, 1) := by decide +kernel
theorem dc_H_lock_46 : decode cb_H_lock 46 = .ok (.aload_n 0, 1) := by decide +kernel
theorem dc_H_lock_47 : decode cb_H_lock 47 = .ok (.getfield 20, 3) := by decide +kernel
theorem dc_H_lock_50 : decode cb_H_lock 50 = .ok (.iload_n 1, 1) := by decide +kernel
theorem dc_H_lock_51 : decode cb_H_lock 51 = .ok (.aaload, 1) := by decide +kernel
theorem dc_H_lock_52 : decode cb_H_lock 52 = .ok (.getfield 149, 3) := by decide +kernel
theorem dc_H_lock_55 : decode cb_H_lock 55 = .ok (.ireturn, 1) := by decide +kernel
theorem dc_H_lock_56 : decode cb_H_lock 56 = .ok (.aload_n 0, 1) := by decide +kernel
theorem dc_H_lock_57 : decode cb_H_lock 57 = .ok (.getfield 20, 3) := by decide +kernel
theorem dc_H_lock_60 : decode cb_H_lock 60 = .ok (.iload_n 1, 1) := by decide +kernel
theorem dc_H_lock_61 : decode cb_H_lock 61 = .ok (.aaload, 1) := by decide +kernel
theorem dc_H_lock_62 : decode cb_H_lock 62 = .ok (.getfield 152, 3) := by decide +kernel
theorem dc_H_lock_65 : decode cb_H_lock 65 = .ok (.getfield 142, 3) := by decide +kernel
theorem dc_H_lock_68 : decode cb_H_lock 68 = .ok (.ireturn, 1) := by decide +kernel
theorem dc_H_lock_69 : decode cb_H_lock 69 = .ok (.aload_n 0, 1) := by decide +kernel
theorem dc_H_lock_70 : decode cb_H_lock 70 = .ok (.getfield 27, 3) := by decide +kernel
theorem dc_H_lock_73 : decode cb_H_lock 73 = .ok (.iload_n 1, 1) := by decide +kernel
theorem dc_H_lock_74 : decode cb_H_lock 74 = .ok (.aaload, 1) := by decide +kernel
theorem dc_H_lock_75 : decode cb_H_lock 75 = .ok (.getfield 142, 3) := by decide +kernel
theorem dc_H_lock_78 : decode cb_H_lock 78 = .ok (.ireturn, 1) := by decide +kernel
theorem dc_H_lock_79 : decode cb_H_lock 79 = .ok (.new 143, 3) := by decide +kernel
theorem dc_H_lock_82 : decode cb_H_lock 82 = .ok (.dup, 1) := by decide +kernel
theorem dc_H_lock_83 : decode cb_H_lock 83 = .ok (.invokespecial 145, 3) := by decide +kernel
theorem dc_H_lock_86 : decode cb_H_lock 86 = .ok (.athrow, 1) := by decide +kernel
theorem dc_H_said_0 : decode cb_H_said 0 = .ok (.iload_n 1, 1) := by decide +kernel
theorem dc_H_said_1 : decode cb_H_said 1 = .ok (.ifCond .lt 17, 3) := by decide +kernel
theorem dc_H_said_4 : decode cb_H_said 4 = .ok (.iload_n 1, 1) := by decide +kernel
theorem dc_H_said_5 : decode cb_H_said 5 = .ok (.aload_n 0, 1) := by decide +kernel
theorem dc_H_said_6 : decode cb_H_said 6 = .ok (.getfield 155, 3) := by decide +kernel
theorem dc_H_said_9 : decode cb_H_said 9 = .ok (.if_icmp .ge 9, 3) := by decide +kernel
theorem dc_H_said_12 : decode cb_H_said 12 = .ok (.iload_n 1, 1) := by decide +kernel
theorem dc_H_said_13 : decode cb_H_said 13 = .ok (.bipush 40, 2) := by decide +kernel
theorem dc_H_said_15 : decode cb_H_said 15 = .ok (.if_icmp .lt 11, 3) := by decide +kernel
theorem dc_H_said_18 : decode cb_H_said 18 = .ok (.new 72, 3) := by decide +kernel
theorem dc_H_said_21 : decode cb_H_said 21 = .ok (.dup, 1) := by decide +kernel
theorem dc_H_said_22 : decode cb_H_said 22 = .ok (.invokespecial 74, 3) := by decide +kernel
theorem dc_H_said_25 : decode cb_H_said 25 = .ok (.athrow, 1) := by decide +kernel
theorem dc_H_said_26 : decode cb_H_said 26 = .ok (.aload_n 0, 1) := by decide +kernel
theorem dc_H_said_27 : decode cb_H_said 27 = .ok (.getfield 36, 3) := by decide +kernel
theorem dc_H_said_30 : decode cb_H_said 30 = .ok (.iload_n 1, 1) := by decide +kernel
theorem dc_H_said_31 : decode cb_H_said 31 = .ok (.iaload, 1) := by decide +kernel
theorem dc_H_said_32 : decode cb_H_said 32 = .ok (.ireturn, 1) := by decide +kernel
theorem dc_H_count_0 : decode cb_H_count 0 = .ok (.iload_n 1, 1) := by decide +kernel
theorem dc_H_count_1 : decode cb_H_count 1 = .ok (.tableswitch 87 0 7 #[47, 52, 57, 62, 67, 72, 77, 82], 47) := by decide +kernel
theorem dc_H_count_48 : decode cb_H_count 48 = .ok (.aload_n 0, 1) := by decide +kernel
theorem dc_H_count_49 : decode cb_H_count 49 = .ok (.getfield 155, 3) := by decide +kernel
theorem dc_H_count_52 : decode cb_H_count 52 = .ok (.ireturn, 1) := by decide +kernel
theorem dc_H_count_53 : decode cb_H_count 53 = .ok (.aload_n 0, 1) := by decide +kernel
theorem dc_H_count_54 : decode cb_H_count 54 = .ok (.getfield 89, 3) := by decide +kernel
theorem dc_H_count_57 : decode cb_H_count 57 = .ok (.ireturn, 1) := by decide +kernel
theorem dc_H_count_58 : decode cb_H_count 58 = .ok (.aload_n 0, 1) := by decide +kernel
theorem dc_H_count_59 : decode cb_H_count 59 = .ok (.getfield 158, 3) := by decide +kernel
theorem dc_H_count_62 : decode cb_H_count 62 = .ok (.ireturn, 1) := by decide +kernel
theorem dc_H_count_63 : decode cb_H_count 63 = .ok (.aload_n 0, 1) := by decide +kernel
theorem dc_H_count_64 : decode cb_H_count 64 = .ok (.invokevirtual 161, 3) := by decide +kernel
theorem dc_H_count_67 : decode cb_H_count 67 = .ok (.ireturn, 1) := by decide +kernel
theorem dc_H_count_68 : decode cb_H_count 68 = .ok (.aload_n 0, 1) := by decide +kernel
theorem dc_H_count_69 : decode cb_H_count 69 = .ok (.invokevirtual 164, 3) := by decide +kernel
theorem dc_H_count_72 : decode cb_H_count 72 = .ok (.ireturn, 1) := by decide +kernel
theorem dc_H_count_73 : decode cb_H_count 73 = .ok (.aload_n 0, 1) := by decide +kernel
theorem dc_H_count_74 : decode cb_H_count 74 = .ok (.getfield 167, 3) := by decide +kernel
theorem dc_H_count_77 : decode cb_H_count 77 = .ok (.ireturn, 1) := by decide +kernel
theorem dc_H_count_78 : decode cb_H_count 78 = .ok (.aload_n 0, 1) := by decide +kernel
theorem dc_H_count_79 : decode cb_H_count 79 = .ok (.getfield 43, 3) := by decide +kernel
theorem dc_H_count_82 : decode cb_H_count 82 = .ok (.ireturn, 1) := by decide +kernel
theorem dc_H_count_83 : decode cb_H_count 83 = .ok (.aload_n 0, 1) := by decide +kernel
theorem dc_H_count_84 : decode cb_H_count 84 = .ok (.getfield 170, 3) := by decide +kernel
theorem dc_H_count_87 : decode cb_H_count 87 = .ok (.ireturn, 1) := by decide +kernel
theorem dc_H_count_88 : decode cb_H_count 88 = .ok (.new 143, 3) := by decide +kernel
theorem dc_H_count_91 : decode cb_H_count 91 = .ok (.dup, 1) := by decide +kernel
theorem dc_H_count_92 : decode cb_H_count 92 = .ok (.invokespecial 145, 3) := by decide +kernel
theorem dc_H_count_95 : decode cb_H_count 95 = .ok (.athrow, 1) := by decide +kernel
theorem th_b_6 : (Int8.ofInt 6).toInt32 = 6 := by decide
theorem th_b_7 : (Int8.ofInt 7).toInt32 = 7 := by decide
theorem th_b_20 : (Int8.ofInt 20).toInt32 = 20 := by decide
theorem th_b_24 : (Int8.ofInt 24).toInt32 = 24 := by decide
theorem th_b_40 : (Int8.ofInt 40).toInt32 = 40 := by decide
theorem th_c_m1 : Int32.ofInt (-1) = -1 := by decide
theorem th_c_0 : Int32.ofInt 0 = 0 := by decide
theorem th_c_1 : Int32.ofInt 1 = 1 := by decide
theorem th_c_2 : Int32.ofInt 2 = 2 := by decide
theorem th_c_3 : Int32.ofInt 3 = 3 := by decide
theorem th_c_4 : Int32.ofInt 4 = 4 := by decide
theorem th_c_5 : Int32.ofInt 5 = 5 := by decide
theorem th_c_21 : Int32.ofInt 21 = 21 := by decide
theorem th_l_m1 : (-1 : Int32).toInt = -1 := by decide
theorem th_l_0 : (0 : Int32).toInt = 0 := by decide
theorem th_l_1 : (1 : Int32).toInt = 1 := by decide
theorem th_l_2 : (2 : Int32).toInt = 2 := by decide
theorem th_l_3 : (3 : Int32).toInt = 3 := by decide
theorem th_l_4 : (4 : Int32).toInt = 4 := by decide
theorem th_l_5 : (5 : Int32).toInt = 5 := by decide
theorem th_l_6 : (6 : Int32).toInt = 6 := by decide
theorem th_l_7 : (7 : Int32).toInt = 7 := by decide
theorem th_l_20 : (20 : Int32).toInt = 20 := by decide
theorem th_l_21 : (21 : Int32).toInt = 21 := by decide
theorem th_l_24 : (24 : Int32).toInt = 24 := by decide
theorem th_l_40 : (40 : Int32).toInt = 40 := by decide
theorem fd_H_11 : th_fd rn_H 11 tf_H 12 0 := ⟨by decide, (tb 225 (by decide +kernel) rfl)⟩
theorem fd_H_20 : th_fd rn_H 20 tf_H 12 1 := ⟨by decide, (tb 226 (by decide +kernel) rfl)⟩
theorem fd_H_27 : th_fd rn_H 27 tf_H 12 2 := ⟨by decide, (tb 227 (by decide +kernel) rfl)⟩
theorem fd_H_32 : th_fd rn_H 32 tf_H 12 3 := ⟨by decide, (tb 228 (by decide +kernel) rfl)⟩
theorem fd_H_36 : th_fd rn_H 36 tf_H 12 4 := ⟨by decide, (tb 229 (by decide +kernel) rfl)⟩
theorem fd_H_39 : th_fd rn_H 39 tf_H 12 6 := ⟨by decide, (tb 231 (by decide +kernel) rfl)⟩
theorem fd_H_43 : th_fd rn_H 43 tf_H 12 7 := ⟨by decide, (tb 232 (by decide +kernel) rfl)⟩
theorem fd_H_63 : th_fd rn_H 63 tf_S 18 1 := ⟨by decide, (tb 136 (by decide +kernel) rfl)⟩
theorem fd_H_67 : th_fd rn_H 67 tf_P 4 3 := ⟨by decide, (tb 88 (by decide +kernel) rfl)⟩
theorem fd_H_89 : th_fd rn_H 89 tf_H 12 9 := ⟨by decide, (tb 234 (by decide +kernel) rfl)⟩
theorem fd_H_106 : th_fd rn_H 106 tf_S 18 5 := ⟨by decide, (tb 144 (by decide +kernel) rfl)⟩
theorem fd_H_109 : th_fd rn_H 109 tf_S 18 6 := ⟨by decide, (tb 146 (by decide +kernel) rfl)⟩
theorem fd_H_112 : th_fd rn_H 112 tf_S 18 7 := ⟨by decide, (tb 147 (by decide +kernel) rfl)⟩
theorem fd_H_115 : th_fd rn_H 115 tf_S 18 2 := ⟨by decide, (tb 138 (by decide +kernel) rfl)⟩
theorem fd_H_119 : th_fd rn_H 119 tf_Q 3 2 := ⟨by decide, (tb 111 (by decide +kernel) rfl)⟩
theorem fd_H_122 : th_fd rn_H 122 tf_S 18 3 := ⟨by decide, (tb 140 (by decide +kernel) rfl)⟩
theorem fd_H_125 : th_fd rn_H 125 tf_S 18 11 := ⟨by decide, (tb 155 (by decide +kernel) rfl)⟩
theorem fd_H_129 : th_fd rn_H 129 tf_S 18 8 := ⟨by decide, (tb 149 (by decide +kernel) rfl)⟩
theorem fd_H_132 : th_fd rn_H 132 tf_S 18 9 := ⟨by decide, (tb 151 (by decide +kernel) rfl)⟩
theorem fd_H_135 : th_fd rn_H 135 tf_S 18 10 := ⟨by decide, (tb 153 (by decide +kernel) rfl)⟩
theorem fd_H_138 : th_fd rn_H 138 tf_S 18 4 := ⟨by decide, (tb 142 (by decide +kernel) rfl)⟩
theorem fd_H_142 : th_fd rn_H 142 tf_R 2 1 := ⟨by decide, (tb 127 (by decide +kernel) rfl)⟩
theorem fd_H_146 : th_fd rn_H 146 tf_M 3 1 := ⟨by decide, (tb 212 (by decide +kernel) rfl)⟩
theorem fd_H_149 : th_fd rn_H 149 tf_M 3 2 := ⟨by decide, (tb 214 (by decide +kernel) rfl)⟩
theorem fd_H_152 : th_fd rn_H 152 tf_M 3 0 := ⟨by decide, (tb 210 (by decide +kernel) rfl)⟩
theorem fd_H_155 : th_fd rn_H 155 tf_H 12 5 := ⟨by decide, (tb 230 (by decide +kernel) rfl)⟩
theorem fd_H_158 : th_fd rn_H 158 tf_H 12 8 := ⟨by decide, (tb 233 (by decide +kernel) rfl)⟩
theorem fd_H_167 : th_fd rn_H 167 tf_H 12 10 := ⟨by decide, (tb 235 (by decide +kernel) rfl)⟩
theorem fd_H_170 : th_fd rn_H 170 tf_H 12 11 := ⟨by decide, (tb 236 (by decide +kernel) rfl)⟩
theorem fd_H_176 : th_fd rn_H 176 tf_S 18 0 := ⟨by decide, (tb 134 (by decide +kernel) rfl)⟩
theorem fd_H_179 : th_fd rn_H 179 tf_S 18 12 := ⟨by decide, (tb 157 (by decide +kernel) rfl)⟩
theorem fd_H_192 : th_fd rn_H 192 tf_P 4 0 := ⟨by decide, (tb 82 (by decide +kernel) rfl)⟩
theorem fd_H_195 : th_fd rn_H 195 tf_P 4 1 := ⟨by decide, (tb 84 (by decide +kernel) rfl)⟩
theorem fd_H_198 : th_fd rn_H 198 tf_P 4 2 := ⟨by decide, (tb 86 (by decide +kernel) rfl)⟩
theorem fd_H_255 : th_fd rn_H 255 tf_Q 3 1 := ⟨by decide, (tb 108 (by decide +kernel) rfl)⟩
theorem fd_H_273 : th_fd rn_H 273 tf_S 18 15 := ⟨by decide, (tb 160 (by decide +kernel) rfl)⟩
theorem fd_H_285 : th_fd rn_H 285 tf_S 18 13 := ⟨by decide, (tb 158 (by decide +kernel) rfl)⟩
theorem fd_H_288 : th_fd rn_H 288 tf_S 18 14 := ⟨by decide, (tb 159 (by decide +kernel) rfl)⟩
theorem fd_H_291 : th_fd rn_H 291 tf_S 18 16 := ⟨by decide, (tb 161 (by decide +kernel) rfl)⟩
theorem fd_H_294 : th_fd rn_H 294 tf_S 18 17 := ⟨by decide, (tb 162 (by decide +kernel) rfl)⟩
theorem fd_H_310 : th_fd rn_H 310 tf_Q 3 0 := ⟨by decide, (tb 106 (by decide +kernel) rfl)⟩
theorem fd_M_18 : th_fd rn_M 18 tf_M 3 1 := ⟨by decide, (tb 211 (by decide +kernel) rfl)⟩
theorem fd_M_22 : th_fd rn_M 22 tf_M 3 2 := ⟨by decide, (tb 213 (by decide +kernel) rfl)⟩
theorem fd_Q_9 : th_fd rn_Q 9 tf_Q 3 0 := ⟨by decide, (tb 105 (by decide +kernel) rfl)⟩
theorem fd_Q_15 : th_fd rn_Q 15 tf_Q 3 1 := ⟨by decide, (tb 107 (by decide +kernel) rfl)⟩
theorem fd_Q_18 : th_fd rn_Q 18 tf_Q 3 2 := ⟨by decide, (tb 109 (by decide +kernel) rfl)⟩
theorem fd_P_9 : th_fd rn_P 9 tf_P 4 0 := ⟨by decide, (tb 81 (by decide +kernel) rfl)⟩
theorem fd_P_15 : th_fd rn_P 15 tf_P 4 1 := ⟨by decide, (tb 83 (by decide +kernel) rfl)⟩
theorem fd_P_18 : th_fd rn_P 18 tf_P 4 2 := ⟨by decide, (tb 85 (by decide +kernel) rfl)⟩
theorem fd_P_21 : th_fd rn_P 21 tf_P 4 3 := ⟨by decide, (tb 87 (by decide +kernel) rfl)⟩
theorem fd_R_9 : th_fd rn_R 9 tf_R 2 0 := ⟨by decide, (tb 125 (by decide +kernel) rfl)⟩
theorem fd_R_15 : th_fd rn_R 15 tf_R 2 1 := ⟨by decide, (tb 126 (by decide +kernel) rfl)⟩
theorem fd_S_23 : th_fd rn_S 23 tf_S 18 2 := ⟨by decide, (tb 137 (by decide +kernel) rfl)⟩
theorem fd_S_27 : th_fd rn_S 27 tf_S 18 3 := ⟨by decide, (tb 139 (by decide +kernel) rfl)⟩
theorem fd_S_37 : th_fd rn_S 37 tf_S 18 5 := ⟨by decide, (tb 143 (by decide +kernel) rfl)⟩
theorem fd_S_41 : th_fd rn_S 41 tf_S 18 8 := ⟨by decide, (tb 148 (by decide +kernel) rfl)⟩
theorem fd_S_50 : th_fd rn_S 50 tf_S 18 6 := ⟨by decide, (tb 145 (by decide +kernel) rfl)⟩
theorem fd_S_53 : th_fd rn_S 53 tf_S 18 9 := ⟨by decide, (tb 150 (by decide +kernel) rfl)⟩
theorem fd_S_56 : th_fd rn_S 56 tf_S 18 10 := ⟨by decide, (tb 152 (by decide +kernel) rfl)⟩
theorem fd_S_59 : th_fd rn_S 59 tf_Q 3 2 := ⟨by decide, (tb 110 (by decide +kernel) rfl)⟩
theorem fd_S_65 : th_fd rn_S 65 tf_S 18 11 := ⟨by decide, (tb 154 (by decide +kernel) rfl)⟩
theorem fd_S_69 : th_fd rn_S 69 tf_S 18 12 := ⟨by decide, (tb 156 (by decide +kernel) rfl)⟩
theorem ok_H_46 : th_okS rn_H 46 yn_H_requireBelow cb_H_requireBelow 2 none 2 := ⟨⟨(tb 274 (by decide +kernel) rfl), (tb 47 (by decide +kernel) rfl), (tb 272 (by decide +kernel) rfl), by decide, by decide, by decide⟩, (tb 273 (by decide +kernel) rfl)⟩
theorem ok_H_53 : th_okS rn_H 53 yn_H_requireOperand cb_H_requireOperand 2 none 2 := ⟨⟨(tb 345 (by decide +kernel) rfl), (tb 47 (by decide +kernel) rfl), (tb 343 (by decide +kernel) rfl), by decide, by decide, by decide⟩, (tb 344 (by decide +kernel) rfl)⟩
theorem ok_H_59 : th_okS rn_H 59 yn_H_requireNotAlive cb_H_requireNotAlive 1 none 1 := ⟨⟨(tb 350 (by decide +kernel) rfl), (tb 47 (by decide +kernel) rfl), (tb 348 (by decide +kernel) rfl), by decide, by decide, by decide⟩, (tb 349 (by decide +kernel) rfl)⟩
theorem ok_H_75 : th_okV rn_H 75 rn_P yn_P_append cb_P_append 4 none 3 := ⟨⟨(tb 388 (by decide +kernel) rfl), (tb 49 (by decide +kernel) rfl), (tb 385 (by decide +kernel) rfl), by decide, by decide, by decide⟩, (tb 386 (by decide +kernel) rfl), (tb 387 (by decide +kernel) rfl)⟩
theorem ok_H_79 : th_okV rn_H 79 rn_S yn_S_isAlive cb_S_isAlive 1 (some .boolean) 0 := ⟨⟨(tb 354 (by decide +kernel) rfl), (tb 48 (by decide +kernel) rfl), (tb 351 (by decide +kernel) rfl), by decide, by decide, by decide⟩, (tb 352 (by decide +kernel) rfl), (tb 353 (by decide +kernel) rfl)⟩
theorem ok_H_83 : th_okV rn_H 83 rn_S yn_S_beginAnew cb_S_beginAnew 1 none 0 := ⟨⟨(tb 406 (by decide +kernel) rfl), (tb 48 (by decide +kernel) rfl), (tb 403 (by decide +kernel) rfl), by decide, by decide, by decide⟩, (tb 404 (by decide +kernel) rfl), (tb 405 (by decide +kernel) rfl)⟩
theorem ok_H_86 : th_okS rn_H 86 yn_H_requireBetween cb_H_requireBetween 3 none 3 := ⟨⟨(tb 277 (by decide +kernel) rfl), (tb 47 (by decide +kernel) rfl), (tb 275 (by decide +kernel) rfl), by decide, by decide, by decide⟩, (tb 276 (by decide +kernel) rfl)⟩
theorem ok_H_92 : th_okV rn_H 92 rn_H yn_H_nextReady cb_H_nextReady 3 (some .int) 0 := ⟨⟨(tb 425 (by decide +kernel) rfl), (tb 47 (by decide +kernel) rfl), (tb 422 (by decide +kernel) rfl), by decide, by decide, by decide⟩, (tb 424 (by decide +kernel) rfl), (tb 1 (by decide +kernel) rfl)⟩
theorem ok_H_96 : th_okV rn_H 96 rn_H yn_H_takeTurn cb_H_takeTurn 6 none 1 := ⟨⟨(tb 429 (by decide +kernel) rfl), (tb 47 (by decide +kernel) rfl), (tb 426 (by decide +kernel) rfl), by decide, by decide, by decide⟩, (tb 428 (by decide +kernel) rfl), (tb 2 (by decide +kernel) rfl)⟩
theorem ok_H_99 : th_okV rn_H 99 rn_H yn_H_interruptAlive cb_H_interruptAlive 2 none 1 := ⟨⟨(tb 545 (by decide +kernel) rfl), (tb 47 (by decide +kernel) rfl), (tb 542 (by decide +kernel) rfl), by decide, by decide, by decide⟩, (tb 544 (by decide +kernel) rfl), (tb 19 (by decide +kernel) rfl)⟩
theorem ok_H_102 : th_okV rn_H 102 rn_H yn_H_read cb_H_read 4 (some .int) 2 := ⟨⟨(tb 446 (by decide +kernel) rfl), (tb 47 (by decide +kernel) rfl), (tb 443 (by decide +kernel) rfl), by decide, by decide, by decide⟩, (tb 445 (by decide +kernel) rfl), (tb 6 (by decide +kernel) rfl)⟩
theorem ok_H_161 : th_okV rn_H 161 rn_H yn_H_aliveCount cb_H_aliveCount 3 (some .int) 0 := ⟨⟨(tb 617 (by decide +kernel) rfl), (tb 47 (by decide +kernel) rfl), (tb 614 (by decide +kernel) rfl), by decide, by decide, by decide⟩, (tb 616 (by decide +kernel) rfl), (tb 22 (by decide +kernel) rfl)⟩
theorem ok_H_164 : th_okV rn_H 164 rn_H yn_H_readyCount cb_H_readyCount 3 (some .int) 0 := ⟨⟨(tb 621 (by decide +kernel) rfl), (tb 47 (by decide +kernel) rfl), (tb 618 (by decide +kernel) rfl), by decide, by decide, by decide⟩, (tb 620 (by decide +kernel) rfl), (tb 23 (by decide +kernel) rfl)⟩
theorem ok_H_182 : th_okV rn_H 182 rn_H yn_H_raise cb_H_raise 3 none 2 := ⟨⟨(tb 433 (by decide +kernel) rfl), (tb 47 (by decide +kernel) rfl), (tb 430 (by decide +kernel) rfl), by decide, by decide, by decide⟩, (tb 432 (by decide +kernel) rfl), (tb 3 (by decide +kernel) rfl)⟩
theorem ok_H_186 : th_okV rn_H 186 rn_H yn_H_finish cb_H_finish 4 none 2 := ⟨⟨(tb 438 (by decide +kernel) rfl), (tb 47 (by decide +kernel) rfl), (tb 435 (by decide +kernel) rfl), by decide, by decide, by decide⟩, (tb 437 (by decide +kernel) rfl), (tb 4 (by decide +kernel) rfl)⟩
theorem ok_H_189 : th_okV rn_H 189 rn_H yn_H_countInstruction cb_H_countInstruction 2 none 1 := ⟨⟨(tb 479 (by decide +kernel) rfl), (tb 47 (by decide +kernel) rfl), (tb 476 (by decide +kernel) rfl), by decide, by decide, by decide⟩, (tb 478 (by decide +kernel) rfl), (tb 10 (by decide +kernel) rfl)⟩
theorem ok_H_201 : th_okV rn_H 201 rn_H yn_H_perform cb_H_perform 5 (some .int) 4 := ⟨⟨(tb 483 (by decide +kernel) rfl), (tb 47 (by decide +kernel) rfl), (tb 480 (by decide +kernel) rfl), by decide, by decide, by decide⟩, (tb 482 (by decide +kernel) rfl), (tb 11 (by decide +kernel) rfl)⟩
theorem ok_H_205 : th_okV rn_H 205 rn_H yn_H_write cb_H_write 5 none 3 := ⟨⟨(tb 454 (by decide +kernel) rfl), (tb 47 (by decide +kernel) rfl), (tb 451 (by decide +kernel) rfl), by decide, by decide, by decide⟩, (tb 453 (by decide +kernel) rfl), (tb 7 (by decide +kernel) rfl)⟩
theorem ok_H_209 : th_okS rn_H 209 yn_H_bind cb_H_bind 3 (some .int) 3 := ⟨⟨(tb 486 (by decide +kernel) rfl), (tb 47 (by decide +kernel) rfl), (tb 484 (by decide +kernel) rfl), by decide, by decide, by decide⟩, (tb 485 (by decide +kernel) rfl)⟩
theorem ok_H_213 : th_okS rn_H 213 yn_H_unbind cb_H_unbind 3 (some .int) 2 := ⟨⟨(tb 498 (by decide +kernel) rfl), (tb 47 (by decide +kernel) rfl), (tb 496 (by decide +kernel) rfl), by decide, by decide, by decide⟩, (tb 497 (by decide +kernel) rfl)⟩
theorem ok_H_216 : th_okV rn_H 216 rn_H yn_H_goFor cb_H_goFor 5 none 3 := ⟨⟨(tb 506 (by decide +kernel) rfl), (tb 47 (by decide +kernel) rfl), (tb 503 (by decide +kernel) rfl), by decide, by decide, by decide⟩, (tb 505 (by decide +kernel) rfl), (tb 12 (by decide +kernel) rfl)⟩
theorem ok_H_219 : th_okV rn_H 219 rn_H yn_H_unlock cb_H_unlock 4 (some .int) 2 := ⟨⟨(tb 518 (by decide +kernel) rfl), (tb 47 (by decide +kernel) rfl), (tb 515 (by decide +kernel) rfl), by decide, by decide, by decide⟩, (tb 517 (by decide +kernel) rfl), (tb 13 (by decide +kernel) rfl)⟩
theorem ok_H_222 : th_okV rn_H 222 rn_H yn_H_tryLock cb_H_tryLock 5 none 3 := ⟨⟨(tb 522 (by decide +kernel) rfl), (tb 47 (by decide +kernel) rfl), (tb 519 (by decide +kernel) rfl), by decide, by decide, by decide⟩, (tb 521 (by decide +kernel) rfl), (tb 14 (by decide +kernel) rfl)⟩
theorem ok_H_225 : th_okV rn_H 225 rn_H yn_H_beginWait cb_H_beginWait 5 (some .int) 3 := ⟨⟨(tb 526 (by decide +kernel) rfl), (tb 47 (by decide +kernel) rfl), (tb 523 (by decide +kernel) rfl), by decide, by decide, by decide⟩, (tb 525 (by decide +kernel) rfl), (tb 15 (by decide +kernel) rfl)⟩
theorem ok_H_228 : th_okV rn_H 228 rn_H yn_H_tellFirst cb_H_tellFirst 3 none 1 := ⟨⟨(tb 530 (by decide +kernel) rfl), (tb 47 (by decide +kernel) rfl), (tb 527 (by decide +kernel) rfl), by decide, by decide, by decide⟩, (tb 529 (by decide +kernel) rfl), (tb 16 (by decide +kernel) rfl)⟩
theorem ok_H_232 : th_okV rn_H 232 rn_H yn_H_tellAll cb_H_tellAll 3 none 1 := ⟨⟨(tb 534 (by decide +kernel) rfl), (tb 47 (by decide +kernel) rfl), (tb 531 (by decide +kernel) rfl), by decide, by decide, by decide⟩, (tb 533 (by decide +kernel) rfl), (tb 17 (by decide +kernel) rfl)⟩
theorem ok_H_235 : th_okS rn_H 235 yn_H_startOther cb_H_startOther 1 (some .int) 1 := ⟨⟨(tb 537 (by decide +kernel) rfl), (tb 47 (by decide +kernel) rfl), (tb 535 (by decide +kernel) rfl), by decide, by decide, by decide⟩, (tb 536 (by decide +kernel) rfl)⟩
theorem ok_H_239 : th_okV rn_H 239 rn_H yn_H_beginJoin cb_H_beginJoin 5 (some .int) 3 := ⟨⟨(tb 541 (by decide +kernel) rfl), (tb 47 (by decide +kernel) rfl), (tb 538 (by decide +kernel) rfl), by decide, by decide, by decide⟩, (tb 540 (by decide +kernel) rfl), (tb 18 (by decide +kernel) rfl)⟩
theorem ok_H_242 : th_okS rn_H 242 yn_H_hook cb_H_hook 3 (some .int) 3 := ⟨⟨(tb 549 (by decide +kernel) rfl), (tb 47 (by decide +kernel) rfl), (tb 547 (by decide +kernel) rfl), by decide, by decide, by decide⟩, (tb 548 (by decide +kernel) rfl)⟩
theorem ok_H_245 : th_okV rn_H 245 rn_H yn_H_jumpIfZero cb_H_jumpIfZero 4 none 3 := ⟨⟨(tb 553 (by decide +kernel) rfl), (tb 47 (by decide +kernel) rfl), (tb 550 (by decide +kernel) rfl), by decide, by decide, by decide⟩, (tb 552 (by decide +kernel) rfl), (tb 20 (by decide +kernel) rfl)⟩
theorem ok_H_248 : th_okV rn_H 248 rn_H yn_H_keepSaid cb_H_keepSaid 2 none 1 := ⟨⟨(tb 557 (by decide +kernel) rfl), (tb 47 (by decide +kernel) rfl), (tb 554 (by decide +kernel) rfl), by decide, by decide, by decide⟩, (tb 556 (by decide +kernel) rfl), (tb 21 (by decide +kernel) rfl)⟩
theorem ok_H_251 : th_okV rn_H 251 rn_Q yn_Q_latest cb_Q_latest 3 (some .int) 1 := ⟨⟨(tb 450 (by decide +kernel) rfl), (tb 50 (by decide +kernel) rfl), (tb 447 (by decide +kernel) rfl), by decide, by decide, by decide⟩, (tb 448 (by decide +kernel) rfl), (tb 449 (by decide +kernel) rfl)⟩
theorem ok_H_258 : th_okV rn_H 258 rn_Q yn_Q_isFull cb_Q_isFull 1 (some .boolean) 0 := ⟨⟨(tb 490 (by decide +kernel) rfl), (tb 50 (by decide +kernel) rfl), (tb 487 (by decide +kernel) rfl), by decide, by decide, by decide⟩, (tb 488 (by decide +kernel) rfl), (tb 489 (by decide +kernel) rfl)⟩
theorem ok_H_261 : th_okV rn_H 261 rn_Q yn_Q_append cb_Q_append 3 none 2 := ⟨⟨(tb 494 (by decide +kernel) rfl), (tb 50 (by decide +kernel) rfl), (tb 491 (by decide +kernel) rfl), by decide, by decide, by decide⟩, (tb 492 (by decide +kernel) rfl), (tb 493 (by decide +kernel) rfl)⟩
theorem ok_H_263 : th_okV rn_H 263 rn_Q yn_Q_takeOut cb_Q_takeOut 3 none 1 := ⟨⟨(tb 502 (by decide +kernel) rfl), (tb 50 (by decide +kernel) rfl), (tb 499 (by decide +kernel) rfl), by decide, by decide, by decide⟩, (tb 500 (by decide +kernel) rfl), (tb 501 (by decide +kernel) rfl)⟩
theorem ok_H_266 : th_okV rn_H 266 rn_M yn_M_isOpenTo cb_M_isOpenTo 2 (some .boolean) 1 := ⟨⟨(tb 510 (by decide +kernel) rfl), (tb 52 (by decide +kernel) rfl), (tb 507 (by decide +kernel) rfl), by decide, by decide, by decide⟩, (tb 508 (by decide +kernel) rfl), (tb 509 (by decide +kernel) rfl)⟩
theorem ok_H_270 : th_okV rn_H 270 rn_M yn_M_give cb_M_give 3 none 2 := ⟨⟨(tb 471 (by decide +kernel) rfl), (tb 52 (by decide +kernel) rfl), (tb 468 (by decide +kernel) rfl), by decide, by decide, by decide⟩, (tb 469 (by decide +kernel) rfl), (tb 470 (by decide +kernel) rfl)⟩
theorem ok_H_276 : th_okV rn_H 276 rn_R yn_R_append cb_R_append 2 none 1 := ⟨⟨(tb 514 (by decide +kernel) rfl), (tb 51 (by decide +kernel) rfl), (tb 511 (by decide +kernel) rfl), by decide, by decide, by decide⟩, (tb 512 (by decide +kernel) rfl), (tb 513 (by decide +kernel) rfl)⟩
theorem ok_H_278 : th_okV rn_H 278 rn_H yn_H_passOn cb_H_passOn 3 none 1 := ⟨⟨(tb 459 (by decide +kernel) rfl), (tb 47 (by decide +kernel) rfl), (tb 456 (by decide +kernel) rfl), by decide, by decide, by decide⟩, (tb 458 (by decide +kernel) rfl), (tb 8 (by decide +kernel) rfl)⟩
theorem ok_H_282 : th_okV rn_H 282 rn_R yn_R_takeFirst cb_R_takeFirst 2 (some .int) 0 := ⟨⟨(tb 463 (by decide +kernel) rfl), (tb 51 (by decide +kernel) rfl), (tb 460 (by decide +kernel) rfl), by decide, by decide, by decide⟩, (tb 461 (by decide +kernel) rfl), (tb 462 (by decide +kernel) rfl)⟩
theorem ok_H_297 : th_okV rn_H 297 rn_R yn_R_takeOut cb_R_takeOut 4 none 1 := ⟨⟨(tb 467 (by decide +kernel) rfl), (tb 51 (by decide +kernel) rfl), (tb 546 (by decide +kernel) rfl), by decide, by decide, by decide⟩, (tb 465 (by decide +kernel) rfl), (tb 466 (by decide +kernel) rfl)⟩
theorem ok_H_298 : th_okV rn_H 298 rn_S yn_S_forgetInterrupt cb_S_forgetInterrupt 1 none 0 := ⟨⟨(tb 414 (by decide +kernel) rfl), (tb 48 (by decide +kernel) rfl), (tb 434 (by decide +kernel) rfl), by decide, by decide, by decide⟩, (tb 412 (by decide +kernel) rfl), (tb 413 (by decide +kernel) rfl)⟩
theorem ok_H_301 : th_okV rn_H 301 rn_H yn_H_runHooks cb_H_runHooks 5 none 1 := ⟨⟨(tb 442 (by decide +kernel) rfl), (tb 47 (by decide +kernel) rfl), (tb 439 (by decide +kernel) rfl), by decide, by decide, by decide⟩, (tb 441 (by decide +kernel) rfl), (tb 5 (by decide +kernel) rfl)⟩
theorem ok_H_304 : th_okV rn_H 304 rn_S yn_S_forgetAll cb_S_forgetAll 1 none 0 := ⟨⟨(tb 410 (by decide +kernel) rfl), (tb 48 (by decide +kernel) rfl), (tb 455 (by decide +kernel) rfl), by decide, by decide, by decide⟩, (tb 408 (by decide +kernel) rfl), (tb 409 (by decide +kernel) rfl)⟩
theorem ok_H_307 : th_okV rn_H 307 rn_H yn_H_wakeJoiners cb_H_wakeJoiners 4 none 1 := ⟨⟨(tb 475 (by decide +kernel) rfl), (tb 47 (by decide +kernel) rfl), (tb 472 (by decide +kernel) rfl), by decide, by decide, by decide⟩, (tb 474 (by decide +kernel) rfl), (tb 9 (by decide +kernel) rfl)⟩
theorem ok_Q_22 : th_okV rn_Q 22 rn_Q yn_Q_isFull cb_Q_isFull 1 (some .boolean) 0 := ⟨⟨(tb 490 (by decide +kernel) rfl), (tb 50 (by decide +kernel) rfl), (tb 495 (by decide +kernel) rfl), by decide, by decide, by decide⟩, (tb 488 (by decide +kernel) rfl), (tb 489 (by decide +kernel) rfl)⟩
theorem ok_R_19 : th_okV rn_R 19 rn_R yn_R_takeOut cb_R_takeOut 4 none 1 := ⟨⟨(tb 467 (by decide +kernel) rfl), (tb 51 (by decide +kernel) rfl), (tb 464 (by decide +kernel) rfl), by decide, by decide, by decide⟩, (tb 465 (by decide +kernel) rfl), (tb 466 (by decide +kernel) rfl)⟩
theorem ok_S_47 : th_okV rn_S 47 rn_S yn_S_forgetAll cb_S_forgetAll 1 none 0 := ⟨⟨(tb 410 (by decide +kernel) rfl), (tb 48 (by decide +kernel) rfl), (tb 407 (by decide +kernel) rfl), by decide, by decide, by decide⟩, (tb 408 (by decide +kernel) rfl), (tb 409 (by decide +kernel) rfl)⟩
theorem ok_S_62 : th_okV rn_S 62 rn_S yn_S_forgetInterrupt cb_S_forgetInterrupt 1 none 0 := ⟨⟨(tb 414 (by decide +kernel) rfl), (tb 48 (by decide +kernel) rfl), (tb 411 (by decide +kernel) rfl), by decide, by decide, by decide⟩, (tb 412 (by decide +kernel) rfl), (tb 413 (by decide +kernel) rfl)⟩
theorem okT_H_72 : th_okT rn_H 72 74 "java/lang/IndexOutOfBoundsException" ["java/lang/RuntimeException", "java/lang/Exception"] := ⟨by decide +kernel, by decide +kernel, (tb 370 (by decide +kernel) rfl), (tb 59 (by decide +kernel) rfl), by decide +kernel, by decide +kernel⟩
theorem okT_H_143 : th_okT rn_H 143 145 "java/lang/IllegalArgumentException" ["java/lang/RuntimeException", "java/lang/Exception"] := ⟨by decide +kernel, by decide +kernel, (tb 278 (by decide +kernel) rfl), (tb 57 (by decide +kernel) rfl), by decide +kernel, by decide +kernel⟩
theorem okT_H_173 : th_okT rn_H 173 175 "java/lang/IllegalStateException" ["java/lang/RuntimeException", "java/lang/Exception"] := ⟨by decide +kernel, by decide +kernel, (tb 355 (by decide +kernel) rfl), (tb 58 (by decide +kernel) rfl), by decide +kernel, by decide +kernel⟩
theorem sl_H_50 : Cond.fieldLink rn_H 50 th_s91.1 th_s91.2.1 "[I" ∈ th_B := (tb 341 (by decide +kernel) rfl)
theorem sl_H_56 : Cond.fieldLink rn_H 56 th_s92.1 th_s92.2.1 "[I" ∈ th_B := (tb 346 (by decide +kernel) rfl)
end
section
theorem oi_1 : Cond.instanceMethod objectInit ∈ th_B := (tb 66 (by decide +kernel) rfl)
theorem oi_2 : Cond.code objectInit ⟨#[0xb1]⟩ 1 none ∈ th_B := (tb 67 (by decide +kernel) rfl)
theorem ac_int : Cond.arrayClass .int ∈ th_B := (tb 98 (by decide +kernel) rfl)
theorem ac_boolean : Cond.arrayClass .boolean ∈ th_B := (tb 737 (by decide +kernel) rfl)
theorem hd_16 : ∀ k, k < 3 → (th_fr 16 k = true ∧ defaultValue (ft_M k) = .null) ∨ (th_fr 16 k = false ∧ defaultValue (ft_M k) = .int 0) := fun k hk => match k, hk with
  | 0, _ => Or.inl ⟨rfl, rfl⟩
  | 1, _ => Or.inr ⟨rfl, rfl⟩
  | 2, _ => Or.inr ⟨rfl, rfl⟩
  | k + 3, hk => absurd hk (by omega)
theorem hd_11 : ∀ k, k < 3 → (th_fr 11 k = true ∧ defaultValue (ft_Q k) = .null) ∨ (th_fr 11 k = false ∧ defaultValue (ft_Q k) = .int 0) := fun k hk => match k, hk with
  | 0, _ => Or.inl ⟨rfl, rfl⟩
  | 1, _ => Or.inl ⟨rfl, rfl⟩
  | 2, _ => Or.inr ⟨rfl, rfl⟩
  | k + 3, hk => absurd hk (by omega)
theorem hd_7 : ∀ k, k < 4 → (th_fr 7 k = true ∧ defaultValue (ft_P k) = .null) ∨ (th_fr 7 k = false ∧ defaultValue (ft_P k) = .int 0) := fun k hk => match k, hk with
  | 0, _ => Or.inl ⟨rfl, rfl⟩
  | 1, _ => Or.inl ⟨rfl, rfl⟩
  | 2, _ => Or.inl ⟨rfl, rfl⟩
  | 3, _ => Or.inr ⟨rfl, rfl⟩
  | k + 4, hk => absurd hk (by omega)
theorem hd_14 : ∀ k, k < 2 → (th_fr 14 k = true ∧ defaultValue (ft_R k) = .null) ∨ (th_fr 14 k = false ∧ defaultValue (ft_R k) = .int 0) := fun k hk => match k, hk with
  | 0, _ => Or.inl ⟨rfl, rfl⟩
  | 1, _ => Or.inr ⟨rfl, rfl⟩
  | k + 2, hk => absurd hk (by omega)
theorem hd_6 : ∀ k, k < 18 → (th_fr 6 k = true ∧ defaultValue (ft_S k) = .null) ∨ (th_fr 6 k = false ∧ defaultValue (ft_S k) = .int 0) := fun k hk => match k, hk with
  | 0, _ => Or.inr ⟨rfl, rfl⟩
  | 1, _ => Or.inl ⟨rfl, rfl⟩
  | 2, _ => Or.inl ⟨rfl, rfl⟩
  | 3, _ => Or.inl ⟨rfl, rfl⟩
  | 4, _ => Or.inl ⟨rfl, rfl⟩
  | 5, _ => Or.inr ⟨rfl, rfl⟩
  | 6, _ => Or.inr ⟨rfl, rfl⟩
  | 7, _ => Or.inr ⟨rfl, rfl⟩
  | 8, _ => Or.inr ⟨rfl, rfl⟩
  | 9, _ => Or.inr ⟨rfl, rfl⟩
  | 10, _ => Or.inr ⟨rfl, rfl⟩
  | 11, _ => Or.inr ⟨rfl, rfl⟩
  | 12, _ => Or.inr ⟨rfl, rfl⟩
  | 13, _ => Or.inr ⟨rfl, rfl⟩
  | 14, _ => Or.inr ⟨rfl, rfl⟩
  | 15, _ => Or.inr ⟨rfl, rfl⟩
  | 16, _ => Or.inr ⟨rfl, rfl⟩
  | 17, _ => Or.inr ⟨rfl, rfl⟩
  | k + 18, hk => absurd hk (by omega)
theorem hd_0 : ∀ k, k < 12 → (th_fr 0 k = true ∧ defaultValue (ft_H k) = .null) ∨ (th_fr 0 k = false ∧ defaultValue (ft_H k) = .int 0) := fun k hk => match k, hk with
  | 0, _ => Or.inl ⟨rfl, rfl⟩
  | 1, _ => Or.inl ⟨rfl, rfl⟩
  | 2, _ => Or.inl ⟨rfl, rfl⟩
  | 3, _ => Or.inl ⟨rfl, rfl⟩
  | 4, _ => Or.inl ⟨rfl, rfl⟩
  | 5, _ => Or.inr ⟨rfl, rfl⟩
  | 6, _ => Or.inr ⟨rfl, rfl⟩
  | 7, _ => Or.inr ⟨rfl, rfl⟩
  | 8, _ => Or.inr ⟨rfl, rfl⟩
  | 9, _ => Or.inr ⟨rfl, rfl⟩
  | 10, _ => Or.inr ⟨rfl, rfl⟩
  | 11, _ => Or.inr ⟨rfl, rfl⟩
  | k + 12, hk => absurd hk (by omega)
theorem hd_20 : ∀ k, k < 36 → (th_fr 20 k = true ∧ defaultValue (ft_O k) = .null) ∨ (th_fr 20 k = false ∧ defaultValue (ft_O k) = .int 0) := fun k hk => match k, hk with
  | 0, _ => Or.inl ⟨rfl, rfl⟩
  | 1, _ => Or.inl ⟨rfl, rfl⟩
  | 2, _ => Or.inl ⟨rfl, rfl⟩
  | 3, _ => Or.inl ⟨rfl, rfl⟩
  | 4, _ => Or.inl ⟨rfl, rfl⟩
  | 5, _ => Or.inl ⟨rfl, rfl⟩
  | 6, _ => Or.inl ⟨rfl, rfl⟩
  | 7, _ => Or.inl ⟨rfl, rfl⟩
  | 8, _ => Or.inl ⟨rfl, rfl⟩
  | 9, _ => Or.inl ⟨rfl, rfl⟩
  | 10, _ => Or.inl ⟨rfl, rfl⟩
  | 11, _ => Or.inl ⟨rfl, rfl⟩
  | 12, _ => Or.inl ⟨rfl, rfl⟩
  | 13, _ => Or.inl ⟨rfl, rfl⟩
  | 14, _ => Or.inl ⟨rfl, rfl⟩
  | 15, _ => Or.inl ⟨rfl, rfl⟩
  | 16, _ => Or.inl ⟨rfl, rfl⟩
  | 17, _ => Or.inl ⟨rfl, rfl⟩
  | 18, _ => Or.inl ⟨rfl, rfl⟩
  | 19, _ => Or.inl ⟨rfl, rfl⟩
  | 20, _ => Or.inl ⟨rfl, rfl⟩
  | 21, _ => Or.inl ⟨rfl, rfl⟩
  | 22, _ => Or.inl ⟨rfl, rfl⟩
  | 23, _ => Or.inl ⟨rfl, rfl⟩
  | 24, _ => Or.inl ⟨rfl, rfl⟩
  | 25, _ => Or.inl ⟨rfl, rfl⟩
  | 26, _ => Or.inl ⟨rfl, rfl⟩
  | 27, _ => Or.inl ⟨rfl, rfl⟩
  | 28, _ => Or.inl ⟨rfl, rfl⟩
  | 29, _ => Or.inl ⟨rfl, rfl⟩
  | 30, _ => Or.inl ⟨rfl, rfl⟩
  | 31, _ => Or.inl ⟨rfl, rfl⟩
  | 32, _ => Or.inl ⟨rfl, rfl⟩
  | 33, _ => Or.inr ⟨rfl, rfl⟩
  | 34, _ => Or.inr ⟨rfl, rfl⟩
  | 35, _ => Or.inr ⟨rfl, rfl⟩
  | k + 36, hk => absurd hk (by omega)
theorem dc_R_init_0 : decode cb_R_init 0 = .ok (.aload_n 0, 1) := by decide +kernel
theorem dc_R_init_1 : decode cb_R_init 1 = .ok (.invokespecial 3, 3) := by decide +kernel
theorem dc_R_init_4 : decode cb_R_init 4 = .ok (.aload_n 0, 1) := by decide +kernel
theorem dc_R_init_5 : decode cb_R_init 5 = .ok (.iconst 5, 1) := by decide +kernel
theorem dc_R_init_6 : decode cb_R_init 6 = .ok (.newarray .int, 2) := by decide +kernel
theorem dc_R_init_8 : decode cb_R_init 8 = .ok (.putfield 9, 3) := by decide +kernel
theorem dc_R_init_11 : decode cb_R_init 11 = .ok (.return_, 1) := by decide +kernel
theorem dc_P_init_0 : decode cb_P_init 0 = .ok (.aload_n 0, 1) := by decide +kernel
theorem dc_P_init_1 : decode cb_P_init 1 = .ok (.invokespecial 3, 3) := by decide +kernel
theorem dc_P_init_4 : decode cb_P_init 4 = .ok (.aload_n 0, 1) := by decide +kernel
theorem dc_P_init_5 : decode cb_P_init 5 = .ok (.bipush 24, 2) := by decide +kernel
theorem dc_P_init_7 : decode cb_P_init 7 = .ok (.newarray .int, 2) := by decide +kernel
theorem dc_P_init_9 : decode cb_P_init 9 = .ok (.putfield 9, 3) := by decide +kernel
theorem dc_P_init_12 : decode cb_P_init 12 = .ok (.aload_n 0, 1) := by decide +kernel
theorem dc_P_init_13 : decode cb_P_init 13 = .ok (.bipush 24, 2) := by decide +kernel
theorem dc_P_init_15 : decode cb_P_init 15 = .ok (.newarray .int, 2) := by decide +kernel
theorem dc_P_init_17 : decode cb_P_init 17 = .ok (.putfield 15, 3) := by decide +kernel
theorem dc_P_init_20 : decode cb_P_init 20 = .ok (.aload_n 0, 1) := by decide +kernel
theorem dc_P_init_21 : decode cb_P_init 21 = .ok (.bipush 24, 2) := by decide +kernel
theorem dc_P_init_23 : decode cb_P_init 23 = .ok (.newarray .int, 2) := by decide +kernel
theorem dc_P_init_25 : decode cb_P_init 25 = .ok (.putfield 18, 3) := by decide +kernel
theorem dc_P_init_28 : decode cb_P_init 28 = .ok (.return_, 1) := by decide +kernel
theorem dc_Q_init_0 : decode cb_Q_init 0 = .ok (.aload_n 0, 1) := by decide +kernel
theorem dc_Q_init_1 : decode cb_Q_init 1 = .ok (.invokespecial 3, 3) := by decide +kernel
theorem dc_Q_init_4 : decode cb_Q_init 4 = .ok (.aload_n 0, 1) := by decide +kernel
theorem dc_Q_init_5 : decode cb_Q_init 5 = .ok (.iload_n 1, 1) := by decide +kernel
theorem dc_Q_init_6 : decode cb_Q_init 6 = .ok (.newarray .int, 2) := by decide +kernel
theorem dc_Q_init_8 : decode cb_Q_init 8 = .ok (.putfield 9, 3) := by decide +kernel
theorem dc_Q_init_11 : decode cb_Q_init 11 = .ok (.aload_n 0, 1) := by decide +kernel
theorem dc_Q_init_12 : decode cb_Q_init 12 = .ok (.iload_n 1, 1) := by decide +kernel
theorem dc_Q_init_13 : decode cb_Q_init 13 = .ok (.newarray .int, 2) := by decide +kernel
theorem dc_Q_init_15 : decode cb_Q_init 15 = .ok (.putfield 15, 3) := by decide +kernel
theorem dc_Q_init_18 : decode cb_Q_init 18 = .ok (.return_, 1) := by decide +kernel
theorem dc_M_init_0 : decode cb_M_init 0 = .ok (.aload_n 0, 1) := by decide +kernel
theorem dc_M_init_1 : decode cb_M_init 1 = .ok (.invokespecial 3, 3) := by decide +kernel
theorem dc_M_init_4 : decode cb_M_init 4 = .ok (.aload_n 0, 1) := by decide +kernel
theorem dc_M_init_5 : decode cb_M_init 5 = .ok (.new 9, 3) := by decide +kernel
theorem dc_M_init_8 : decode cb_M_init 8 = .ok (.dup, 1) := by decide +kernel
theorem dc_M_init_9 : decode cb_M_init 9 = .ok (.invokespecial 11, 3) := by decide +kernel
theorem dc_M_init_12 : decode cb_M_init 12 = .ok (.putfield 12, 3) := by decide +kernel
theorem dc_M_init_15 : decode cb_M_init 15 = .ok (.aload_n 0, 1) := by decide +kernel
theorem dc_M_init_16 : decode cb_M_init 16 = .ok (.iconst (-1), 1) := by decide +kernel
theorem dc_M_init_17 : decode cb_M_init 17 = .ok (.putfield 18, 3) := by decide +kernel
theorem dc_M_init_20 : decode cb_M_init 20 = .ok (.return_, 1) := by decide +kernel
theorem dc_S_init_0 : decode cb_S_init 0 = .ok (.aload_n 0, 1) := by decide +kernel
theorem dc_S_init_1 : decode cb_S_init 1 = .ok (.invokespecial 3, 3) := by decide +kernel
theorem dc_S_init_4 : decode cb_S_init 4 = .ok (.aload_n 0, 1) := by decide +kernel
theorem dc_S_init_5 : decode cb_S_init 5 = .ok (.new 9, 3) := by decide +kernel
theorem dc_S_init_8 : decode cb_S_init 8 = .ok (.dup, 1) := by decide +kernel
theorem dc_S_init_9 : decode cb_S_init 9 = .ok (.invokespecial 11, 3) := by decide +kernel
theorem dc_S_init_12 : decode cb_S_init 12 = .ok (.putfield 12, 3) := by decide +kernel
theorem dc_S_init_15 : decode cb_S_init 15 = .ok (.aload_n 0, 1) := by decide +kernel
theorem dc_S_init_16 : decode cb_S_init 16 = .ok (.new 18, 3) := by decide +kernel
theorem dc_S_init_19 : decode cb_S_init 19 = .ok (.dup, 1) := by decide +kernel
theorem dc_S_init_20 : decode cb_S_init 20 = .ok (.bipush 12, 2) := by decide +kernel
theorem dc_S_init_22 : decode cb_S_init 22 = .ok (.invokespecial 20, 3) := by decide +kernel
theorem dc_S_init_25 : decode cb_S_init 25 = .ok (.putfield 23, 3) := by decide +kernel
theorem dc_S_init_28 : decode cb_S_init 28 = .ok (.aload_n 0, 1) := by decide +kernel
theorem dc_S_init_29 : decode cb_S_init 29 = .ok (.new 18, 3) := by decide +kernel
theorem dc_S_init_32 : decode cb_S_init 32 = .ok (.dup, 1) := by decide +kernel
theorem dc_S_init_33 : decode cb_S_init 33 = .ok (.iconst 4, 1) := by decide +kernel
theorem dc_S_init_34 : decode cb_S_init 34 = .ok (.invokespecial 20, 3) := by decide +kernel
theorem dc_S_init_37 : decode cb_S_init 37 = .ok (.putfield 27, 3) := by decide +kernel
theorem dc_S_init_40 : decode cb_S_init 40 = .ok (.aload_n 0, 1) := by decide +kernel
theorem dc_S_init_41 : decode cb_S_init 41 = .ok (.new 30, 3) := by decide +kernel
theorem dc_S_init_44 : decode cb_S_init 44 = .ok (.dup, 1) := by decide +kernel
theorem dc_S_init_45 : decode cb_S_init 45 = .ok (.invokespecial 32, 3) := by decide +kernel
theorem dc_S_init_48 : decode cb_S_init 48 = .ok (.putfield 33, 3) := by decide +kernel
theorem dc_S_init_51 : decode cb_S_init 51 = .ok (.aload_n 0, 1) := by decide +kernel
theorem dc_S_init_52 : decode cb_S_init 52 = .ok (.iconst 0, 1) := by decide +kernel
theorem dc_S_init_53 : decode cb_S_init 53 = .ok (.putfield 37, 3) := by decide +kernel
theorem dc_S_init_56 : decode cb_S_init 56 = .ok (.aload_n 0, 1) := by decide +kernel
theorem dc_S_init_57 : decode cb_S_init 57 = .ok (.bipush 24, 2) := by decide +kernel
theorem dc_S_init_59 : decode cb_S_init 59 = .ok (.putfield 41, 3) := by decide +kernel
theorem dc_S_init_62 : decode cb_S_init 62 = .ok (.aload_n 0, 1) := by decide +kernel
theorem dc_S_init_63 : decode cb_S_init 63 = .ok (.iload_n 1, 1) := by decide +kernel
theorem dc_S_init_64 : decode cb_S_init 64 = .ok (.putfield 44, 3) := by decide +kernel
theorem dc_S_init_67 : decode cb_S_init 67 = .ok (.return_, 1) := by decide +kernel
theorem dc_H_init_0 : decode cb_H_init 0 = .ok (.aload_n 0, 1) := by decide +kernel
theorem dc_H_init_1 : decode cb_H_init 1 = .ok (.invokespecial 1, 3) := by decide +kernel
theorem dc_H_init_4 : decode cb_H_init 4 = .ok (.aload_n 0, 1) := by decide +kernel
theorem dc_H_init_5 : decode cb_H_init 5 = .ok (.iconst 5, 1) := by decide +kernel
theorem dc_H_init_6 : decode cb_H_init 6 = .ok (.anewarray 9, 3) := by decide +kernel
theorem dc_H_init_9 : decode cb_H_init 9 = .ok (.putfield 11, 3) := by decide +kernel
theorem dc_H_init_12 : decode cb_H_init 12 = .ok (.iconst 0, 1) := by decide +kernel
theorem dc_H_init_13 : decode cb_H_init 13 = .ok (.istore_n 1, 1) := by decide +kernel
theorem dc_H_init_14 : decode cb_H_init 14 = .ok (.iload_n 1, 1) := by decide +kernel
theorem dc_H_init_15 : decode cb_H_init 15 = .ok (.iconst 5, 1) := by decide +kernel
theorem dc_H_init_16 : decode cb_H_init 16 = .ok (.if_icmp .ge 23, 3) := by decide +kernel
theorem dc_H_init_19 : decode cb_H_init 19 = .ok (.aload_n 0, 1) := by decide +kernel
theorem dc_H_init_20 : decode cb_H_init 20 = .ok (.getfield 11, 3) := by decide +kernel
theorem dc_H_init_23 : decode cb_H_init 23 = .ok (.iload_n 1, 1) := by decide +kernel
theorem dc_H_init_24 : decode cb_H_init 24 = .ok (.new 9, 3) := by decide +kernel
theorem dc_H_init_27 : decode cb_H_init 27 = .ok (.dup, 1) := by decide +kernel
theorem dc_H_init_28 : decode cb_H_init 28 = .ok (.iload_n 1, 1) := by decide +kernel
theorem dc_H_init_29 : decode cb_H_init 29 = .ok (.invokespecial 15, 3) := by decide +kernel
theorem dc_H_init_32 : decode cb_H_init 32 = .ok (.aastore, 1) := by decide +kernel
theorem dc_H_init_33 : decode cb_H_init 33 = .ok (.iinc 1 1, 3) := by decide +kernel
theorem dc_H_init_36 : decode cb_H_init 36 = .ok (.goto (-22), 3) := by decide +kernel
theorem dc_H_init_39 : decode cb_H_init 39 = .ok (.aload_n 0, 1) := by decide +kernel
theorem dc_H_init_40 : decode cb_H_init 40 = .ok (.iconst 3, 1) := by decide +kernel
theorem dc_H_init_41 : decode cb_H_init 41 = .ok (.anewarray 18, 3) := by decide +kernel
theorem dc_H_init_44 : decode cb_H_init 44 = .ok (.putfield 20, 3) := by decide +kernel
theorem dc_H_init_47 : decode cb_H_init 47 = .ok (.iconst 0, 1) := by decide +kernel
theorem dc_H_init_48 : decode cb_H_init 48 = .ok (.istore_n 1, 1) := by decide +kernel
theorem dc_H_init_49 : decode cb_H_init 49 = .ok (.iload_n 1, 1) := by decide +kernel
theorem dc_H_init_50 : decode cb_H_init 50 = .ok (.iconst 3, 1) := by decide +kernel
theorem dc_H_init_51 : decode cb_H_init 51 = .ok (.if_icmp .ge 22, 3) := by decide +kernel
theorem dc_H_init_54 : decode cb_H_init 54 = .ok (.aload_n 0, 1) := by decide +kernel
theorem dc_H_init_55 : decode cb_H_init 55 = .ok (.getfield 20, 3) := by decide +kernel
theorem dc_H_init_58 : decode cb_H_init 58 = .ok (.iload_n 1, 1) := by decide +kernel
theorem dc_H_init_59 : decode cb_H_init 59 = .ok (.new 18, 3) := by decide +kernel
theorem dc_H_init_62 : decode cb_H_init 62 = .ok (.dup, 1) := by decide +kernel
theorem dc_H_init_63 : decode cb_H_init 63 = .ok (.invokespecial 24, 3) := by decide +kernel
theorem dc_H_init_66 : decode cb_H_init 66 = .ok (.aastore, 1) := by decide +kernel
theorem dc_H_init_67 : decode cb_H_init 67 = .ok (.iinc 1 1, 3) := by decide +kernel
theorem dc_H_init_70 : decode cb_H_init 70 = .ok (.goto (-21), 3) := by decide +kernel
theorem dc_H_init_73 : decode cb_H_init 73 = .ok (.aload_n 0, 1) := by decide +kernel
theorem dc_H_init_74 : decode cb_H_init 74 = .ok (.iconst 3, 1) := by decide +kernel
theorem dc_H_init_75 : decode cb_H_init 75 = .ok (.anewarray 25, 3) := by decide +kernel
theorem dc_H_init_78 : decode cb_H_init 78 = .ok (.putfield 27, 3) := by decide +kernel
theorem dc_H_init_81 : decode cb_H_init 81 = .ok (.iconst 0, 1) := by decide +kernel
theorem dc_H_init_82 : decode cb_H_init 82 = .ok (.istore_n 1, 1) := by decide +kernel
theorem dc_H_init_83 : decode cb_H_init 83 = .ok (.iload_n 1, 1) := by decide +kernel
theorem dc_H_init_84 : decode cb_H_init 84 = .ok (.iconst 3, 1) := by decide +kernel
theorem dc_H_init_85 : decode cb_H_init 85 = .ok (.if_icmp .ge 22, 3) := by decide +kernel
theorem dc_H_init_88 : decode cb_H_init 88 = .ok (.aload_n 0, 1) := by decide +kernel
theorem dc_H_init_89 : decode cb_H_init 89 = .ok (.getfield 27, 3) := by decide +kernel
theorem dc_H_init_92 : decode cb_H_init 92 = .ok (.iload_n 1, 1) := by decide +kernel
theorem dc_H_init_93 : decode cb_H_init 93 = .ok (.new 25, 3) := by decide +kernel
theorem dc_H_init_96 : decode cb_H_init 96 = .ok (.dup, 1) := by decide +kernel
theorem dc_H_init_97 : decode cb_H_init 97 = .ok (.invokespecial 31, 3) := by decide +kernel
theorem dc_H_init_100 : decode cb_H_init 100 = .ok (.aastore, 1) := by decide +kernel
theorem dc_H_init_101 : decode cb_H_init 101 = .ok (.iinc 1 1, 3) := by decide +kernel
theorem dc_H_init_104 : decode cb_H_init 104 = .ok (.goto (-21), 3) := by decide +kernel
theorem dc_H_init_107 : decode cb_H_init 107 = .ok (.aload_n 0, 1) := by decide +kernel
theorem dc_H_init_108 : decode cb_H_init 108 = .ok (.iconst 4, 1) := by decide +kernel
theorem dc_H_init_109 : decode cb_H_init 109 = .ok (.newarray .int, 2) := by decide +kernel
theorem dc_H_init_111 : decode cb_H_init 111 = .ok (.putfield 32, 3) := by decide +kernel
theorem dc_H_init_114 : decode cb_H_init 114 = .ok (.aload_n 0, 1) := by decide +kernel
theorem dc_H_init_115 : decode cb_H_init 115 = .ok (.bipush 40, 2) := by decide +kernel
theorem dc_H_init_117 : decode cb_H_init 117 = .ok (.newarray .int, 2) := by decide +kernel
theorem dc_H_init_119 : decode cb_H_init 119 = .ok (.putfield 36, 3) := by decide +kernel
theorem dc_H_init_122 : decode cb_H_init 122 = .ok (.aload_n 0, 1) := by decide +kernel
theorem dc_H_init_123 : decode cb_H_init 123 = .ok (.iconst 4, 1) := by decide +kernel
theorem dc_H_init_124 : decode cb_H_init 124 = .ok (.putfield 39, 3) := by decide +kernel
theorem dc_H_init_127 : decode cb_H_init 127 = .ok (.aload_n 0, 1) := by decide +kernel
theorem dc_H_init_128 : decode cb_H_init 128 = .ok (.iconst (-1), 1) := by decide +kernel
theorem dc_H_init_129 : decode cb_H_init 129 = .ok (.putfield 43, 3) := by decide +kernel
theorem dc_H_init_132 : decode cb_H_init 132 = .ok (.return_, 1) := by decide +kernel
theorem dc_O_init_0 : decode cb_O_init 0 = .ok (.aload_n 0, 1) := by decide +kernel
theorem dc_O_init_1 : decode cb_O_init 1 = .ok (.invokespecial 1, 3) := by decide +kernel
theorem dc_O_init_4 : decode cb_O_init 4 = .ok (.aload_n 0, 1) := by decide +kernel
theorem dc_O_init_5 : decode cb_O_init 5 = .ok (.bipush 120, 2) := by decide +kernel
theorem dc_O_init_7 : decode cb_O_init 7 = .ok (.newarray .int, 2) := by decide +kernel
theorem dc_O_init_9 : decode cb_O_init 9 = .ok (.putfield 7, 3) := by decide +kernel
theorem dc_O_init_12 : decode cb_O_init 12 = .ok (.aload_n 0, 1) := by decide +kernel
theorem dc_O_init_13 : decode cb_O_init 13 = .ok (.bipush 120, 2) := by decide +kernel
theorem dc_O_init_15 : decode cb_O_init 15 = .ok (.newarray .int, 2) := by decide +kernel
theorem dc_O_init_17 : decode cb_O_init 17 = .ok (.putfield 13, 3) := by decide +kernel
theorem dc_O_init_20 : decode cb_O_init 20 = .ok (.aload_n 0, 1) := by decide +kernel
theorem dc_O_init_21 : decode cb_O_init 21 = .ok (.bipush 120, 2) := by decide +kernel
theorem dc_O_init_23 : decode cb_O_init 23 = .ok (.newarray .int, 2) := by decide +kernel
theorem dc_O_init_25 : decode cb_O_init 25 = .ok (.putfield 16, 3) := by decide +kernel
theorem dc_O_init_28 : decode cb_O_init 28 = .ok (.aload_n 0, 1) := by decide +kernel
theorem dc_O_init_29 : decode cb_O_init 29 = .ok (.iconst 5, 1) := by decide +kernel
theorem dc_O_init_30 : decode cb_O_init 30 = .ok (.newarray .int, 2) := by decide +kernel
theorem dc_O_init_32 : decode cb_O_init 32 = .ok (.putfield 19, 3) := by decide +kernel
theorem dc_O_init_35 : decode cb_O_init 35 = .ok (.aload_n 0, 1) := by decide +kernel
theorem dc_O_init_36 : decode cb_O_init 36 = .ok (.iconst 4, 1) := by decide +kernel
theorem dc_O_init_37 : decode cb_O_init 37 = .ok (.newarray .int, 2) := by decide +kernel
theorem dc_O_init_39 : decode cb_O_init 39 = .ok (.putfield 22, 3) := by decide +kernel
theorem dc_O_init_42 : decode cb_O_init 42 = .ok (.aload_n 0, 1) := by decide +kernel
theorem dc_O_init_43 : decode cb_O_init 43 = .ok (.bipush 60, 2) := by decide +kernel
theorem dc_O_init_45 : decode cb_O_init 45 = .ok (.newarray .int, 2) := by decide +kernel
theorem dc_O_init_47 : decode cb_O_init 47 = .ok (.putfield 25, 3) := by decide +kernel
theorem dc_O_init_50 : decode cb_O_init 50 = .ok (.aload_n 0, 1) := by decide +kernel
theorem dc_O_init_51 : decode cb_O_init 51 = .ok (.bipush 60, 2) := by decide +kernel
theorem dc_O_init_53 : decode cb_O_init 53 = .ok (.newarray .int, 2) := by decide +kernel
theorem dc_O_init_55 : decode cb_O_init 55 = .ok (.putfield 28, 3) := by decide +kernel
theorem dc_O_init_58 : decode cb_O_init 58 = .ok (.aload_n 0, 1) := by decide +kernel
theorem dc_O_init_59 : decode cb_O_init 59 = .ok (.iconst 5, 1) := by decide +kernel
theorem dc_O_init_60 : decode cb_O_init 60 = .ok (.newarray .int, 2) := by decide +kernel
theorem dc_O_init_62 : decode cb_O_init 62 = .ok (.putfield 31, 3) := by decide +kernel
theorem dc_O_init_65 : decode cb_O_init 65 = .ok (.aload_n 0, 1) := by decide +kernel
theorem dc_O_init_66 : decode cb_O_init 66 = .ok (.bipush 20, 2) := by decide +kernel
theorem dc_O_init_68 : decode cb_O_init 68 = .ok (.newarray .int, 2) := by decide +kernel
theorem dc_O_init_70 : decode cb_O_init 70 = .ok (.putfield 34, 3) := by decide +kernel
theorem dc_O_init_73 : decode cb_O_init 73 = .ok (.aload_n 0, 1) := by decide +kernel
theorem dc_O_init_74 : decode cb_O_init 74 = .ok (.bipush 20, 2) := by decide +kernel
theorem dc_O_init_76 : decode cb_O_init 76 = .ok (.newarray .int, 2) := by decide +kernel
theorem dc_O_init_78 : decode cb_O_init 78 = .ok (.putfield 37, 3) := by decide +kernel
theorem dc_O_init_81 : decode cb_O_init 81 = .ok (.aload_n 0, 1) := by decide +kernel
theorem dc_O_init_82 : decode cb_O_init 82 = .ok (.iconst 5, 1) := by decide +kernel
theorem dc_O_init_83 : decode cb_O_init 83 = .ok (.newarray .int, 2) := by decide +kernel
theorem dc_O_init_85 : decode cb_O_init 85 = .ok (.putfield 40, 3) := by decide +kernel
theorem dc_O_init_88 : decode cb_O_init 88 = .ok (.aload_n 0, 1) := by decide +kernel
theorem dc_O_init_89 : decode cb_O_init 89 = .ok (.iconst 5, 1) := by decide +kernel
theorem dc_O_init_90 : decode cb_O_init 90 = .ok (.newarray .int, 2) := by decide +kernel
theorem dc_O_init_92 : decode cb_O_init 92 = .ok (.putfield 43, 3) := by decide +kernel
theorem dc_O_init_95 : decode cb_O_init 95 = .ok (.aload_n 0, 1) := by decide +kernel
theorem dc_O_init_96 : decode cb_O_init 96 = .ok (.iconst 5, 1) := by decide +kernel
theorem dc_O_init_97 : decode cb_O_init 97 = .ok (.newarray .int, 2) := by decide +kernel
theorem dc_O_init_99 : decode cb_O_init 99 = .ok (.putfield 46, 3) := by decide +kernel
theorem dc_O_init_102 : decode cb_O_init 102 = .ok (.aload_n 0, 1) := by decide +kernel
theorem dc_O_init_103 : decode cb_O_init 103 = .ok (.iconst 5, 1) := by decide +kernel
theorem dc_O_init_104 : decode cb_O_init 104 = .ok (.newarray .int, 2) := by decide +kernel
theorem dc_O_init_106 : decode cb_O_init 106 = .ok (.putfield 49, 3) := by decide +kernel
theorem dc_O_init_109 : decode cb_O_init 109 = .ok (.aload_n 0, 1) := by decide +kernel
theorem dc_O_init_110 : decode cb_O_init 110 = .ok (.iconst 5, 1) := by decide +kernel
theorem dc_O_init_111 : decode cb_O_init 111 = .ok (.newarray .int, 2) := by decide +kernel
theorem dc_O_init_113 : decode cb_O_init 113 = .ok (.putfield 52, 3) := by decide +kernel
theorem dc_O_init_116 : decode cb_O_init 116 = .ok (.aload_n 0, 1) := by decide +kernel
theorem dc_O_init_117 : decode cb_O_init 117 = .ok (.iconst 5, 1) := by decide +kernel
theorem dc_O_init_118 : decode cb_O_init 118 = .ok (.newarray .int, 2) := by decide +kernel
theorem dc_O_init_120 : decode cb_O_init 120 = .ok (.putfield 55, 3) := by decide +kernel
theorem dc_O_init_123 : decode cb_O_init 123 = .ok (.aload_n 0, 1) := by decide +kernel
theorem dc_O_init_124 : decode cb_O_init 124 = .ok (.iconst 5, 1) := by decide +kernel
theorem dc_O_init_125 : decode cb_O_init 125 = .ok (.newarray .int, 2) := by decide +kernel
theorem dc_O_init_127 : decode cb_O_init 127 = .ok (.putfield 58, 3) := by decide +kernel
theorem dc_O_init_130 : decode cb_O_init 130 = .ok (.aload_n 0, 1) := by decide +kernel
theorem dc_O_init_131 : decode cb_O_init 131 = .ok (.iconst 5, 1) := by decide +kernel
theorem dc_O_init_132 : decode cb_O_init 132 = .ok (.newarray .int, 2) := by decide +kernel
theorem dc_O_init_134 : decode cb_O_init 134 = .ok (.putfield 61, 3) := by decide +kernel
theorem dc_O_init_137 : decode cb_O_init 137 = .ok (.aload_n 0, 1) := by decide +kernel
theorem dc_O_init_138 : decode cb_O_init 138 = .ok (.iconst 5, 1) := by decide +kernel
theorem dc_O_init_139 : decode cb_O_init 139 = .ok (.newarray .int, 2) := by decide +kernel
theorem dc_O_init_141 : decode cb_O_init 141 = .ok (.putfield 64, 3) := by decide +kernel
theorem dc_O_init_144 : decode cb_O_init 144 = .ok (.aload_n 0, 1) := by decide +kernel
theorem dc_O_init_145 : decode cb_O_init 145 = .ok (.iconst 5, 1) := by decide +kernel
theorem dc_O_init_146 : decode cb_O_init 146 = .ok (.newarray .int, 2) := by decide +kernel
theorem dc_O_init_148 : decode cb_O_init 148 = .ok (.putfield 67, 3) := by decide +kernel
theorem dc_O_init_151 : decode cb_O_init 151 = .ok (.aload_n 0, 1) := by decide +kernel
theorem dc_O_init_152 : decode cb_O_init 152 = .ok (.iconst 5, 1) := by decide +kernel
theorem dc_O_init_153 : decode cb_O_init 153 = .ok (.newarray .int, 2) := by decide +kernel
theorem dc_O_init_155 : decode cb_O_init 155 = .ok (.putfield 70, 3) := by decide +kernel
theorem dc_O_init_158 : decode cb_O_init 158 = .ok (.aload_n 0, 1) := by decide +kernel
theorem dc_O_init_159 : decode cb_O_init 159 = .ok (.iconst 5, 1) := by decide +kernel
theorem dc_O_init_160 : decode cb_O_init 160 = .ok (.newarray .boolean, 2) := by decide +kernel
theorem dc_O_init_162 : decode cb_O_init 162 = .ok (.putfield 73, 3) := by decide +kernel
theorem dc_O_init_165 : decode cb_O_init 165 = .ok (.aload_n 0, 1) := by decide +kernel
theorem dc_O_init_166 : decode cb_O_init 166 = .ok (.iconst 5, 1) := by decide +kernel
theorem dc_O_init_167 : decode cb_O_init 167 = .ok (.newarray .boolean, 2) := by decide +kernel
theorem dc_O_init_169 : decode cb_O_init 169 = .ok (.putfield 77, 3) := by decide +kernel
theorem dc_O_init_172 : decode cb_O_init 172 = .ok (.aload_n 0, 1) := by decide +kernel
theorem dc_O_init_173 : decode cb_O_init 173 = .ok (.iconst 3, 1) := by decide +kernel
theorem dc_O_init_174 : decode cb_O_init 174 = .ok (.newarray .int, 2) := by decide +kernel
theorem dc_O_init_176 : decode cb_O_init 176 = .ok (.putfield 80, 3) := by decide +kernel
theorem dc_O_init_179 : decode cb_O_init 179 = .ok (.aload_n 0, 1) := by decide +kernel
theorem dc_O_init_180 : decode cb_O_init 180 = .ok (.iconst 3, 1) := by decide +kernel
theorem dc_O_init_181 : decode cb_O_init 181 = .ok (.newarray .int, 2) := by decide +kernel
theorem dc_O_init_183 : decode cb_O_init 183 = .ok (.putfield 83, 3) := by decide +kernel
theorem dc_O_init_186 : decode cb_O_init 186 = .ok (.aload_n 0, 1) := by decide +kernel
theorem dc_O_init_187 : decode cb_O_init 187 = .ok (.bipush 15, 2) := by decide +kernel
theorem dc_O_init_189 : decode cb_O_init 189 = .ok (.newarray .int, 2) := by decide +kernel
theorem dc_O_init_191 : decode cb_O_init 191 = .ok (.putfield 86, 3) := by decide +kernel
theorem dc_O_init_194 : decode cb_O_init 194 = .ok (.aload_n 0, 1) := by decide +kernel
theorem dc_O_init_195 : decode cb_O_init 195 = .ok (.iconst 3, 1) := by decide +kernel
theorem dc_O_init_196 : decode cb_O_init 196 = .ok (.newarray .int, 2) := by decide +kernel
theorem dc_O_init_198 : decode cb_O_init 198 = .ok (.putfield 89, 3) := by decide +kernel
theorem dc_O_init_201 : decode cb_O_init 201 = .ok (.aload_n 0, 1) := by decide +kernel
theorem dc_O_init_202 : decode cb_O_init 202 = .ok (.bipush 15, 2) := by decide +kernel
theorem dc_O_init_204 : decode cb_O_init 204 = .ok (.newarray .int, 2) := by decide +kernel
theorem dc_O_init_206 : decode cb_O_init 206 = .ok (.putfield 92, 3) := by decide +kernel
theorem dc_O_init_209 : decode cb_O_init 209 = .ok (.aload_n 0, 1) := by decide +kernel
theorem dc_O_init_210 : decode cb_O_init 210 = .ok (.iconst 3, 1) := by decide +kernel
theorem dc_O_init_211 : decode cb_O_init 211 = .ok (.newarray .int, 2) := by decide +kernel
theorem dc_O_init_213 : decode cb_O_init 213 = .ok (.putfield 95, 3) := by decide +kernel
theorem dc_O_init_216 : decode cb_O_init 216 = .ok (.aload_n 0, 1) := by decide +kernel
theorem dc_O_init_217 : decode cb_O_init 217 = .ok (.bipush 25, 2) := by decide +kernel
theorem dc_O_init_219 : decode cb_O_init 219 = .ok (.newarray .int, 2) := by decide +kernel
theorem dc_O_init_221 : decode cb_O_init 221 = .ok (.putfield 98, 3) := by decide +kernel
theorem dc_O_init_224 : decode cb_O_init 224 = .ok (.aload_n 0, 1) := by decide +kernel
theorem dc_O_init_225 : decode cb_O_init 225 = .ok (.iconst 5, 1) := by decide +kernel
theorem dc_O_init_226 : decode cb_O_init 226 = .ok (.newarray .int, 2) := by decide +kernel
theorem dc_O_init_228 : decode cb_O_init 228 = .ok (.putfield 101, 3) := by decide +kernel
theorem dc_O_init_231 : decode cb_O_init 231 = .ok (.aload_n 0, 1) := by decide +kernel
theorem dc_O_init_232 : decode cb_O_init 232 = .ok (.bipush 40, 2) := by decide +kernel
theorem dc_O_init_234 : decode cb_O_init 234 = .ok (.newarray .int, 2) := by decide +kernel
theorem dc_O_init_236 : decode cb_O_init 236 = .ok (.putfield 104, 3) := by decide +kernel
theorem dc_O_init_239 : decode cb_O_init 239 = .ok (.aload_n 0, 1) := by decide +kernel
theorem dc_O_init_240 : decode cb_O_init 240 = .ok (.bipush 8, 2) := by decide +kernel
theorem dc_O_init_242 : decode cb_O_init 242 = .ok (.newarray .int, 2) := by decide +kernel
theorem dc_O_init_244 : decode cb_O_init 244 = .ok (.putfield 107, 3) := by decide +kernel
theorem dc_O_init_247 : decode cb_O_init 247 = .ok (.aload_n 0, 1) := by decide +kernel
theorem dc_O_init_248 : decode cb_O_init 248 = .ok (.iconst 4, 1) := by decide +kernel
theorem dc_O_init_249 : decode cb_O_init 249 = .ok (.putfield 110, 3) := by decide +kernel
theorem dc_O_init_252 : decode cb_O_init 252 = .ok (.iconst 0, 1) := by decide +kernel
theorem dc_O_init_253 : decode cb_O_init 253 = .ok (.istore_n 1, 1) := by decide +kernel
theorem dc_O_init_254 : decode cb_O_init 254 = .ok (.iload_n 1, 1) := by decide +kernel
theorem dc_O_init_255 : decode cb_O_init 255 = .ok (.iconst 3, 1) := by decide +kernel
theorem dc_O_init_256 : decode cb_O_init 256 = .ok (.if_icmp .ge 16, 3) := by decide +kernel
theorem dc_O_init_259 : decode cb_O_init 259 = .ok (.aload_n 0, 1) := by decide +kernel
theorem dc_O_init_260 : decode cb_O_init 260 = .ok (.getfield 80, 3) := by decide +kernel
theorem dc_O_init_263 : decode cb_O_init 263 = .ok (.iload_n 1, 1) := by decide +kernel
theorem dc_O_init_264 : decode cb_O_init 264 = .ok (.iconst (-1), 1) := by decide +kernel
theorem dc_O_init_265 : decode cb_O_init 265 = .ok (.iastore, 1) := by decide +kernel
theorem dc_O_init_266 : decode cb_O_init 266 = .ok (.iinc 1 1, 3) := by decide +kernel
theorem dc_O_init_269 : decode cb_O_init 269 = .ok (.goto (-15), 3) := by decide +kernel
theorem dc_O_init_272 : decode cb_O_init 272 = .ok (.iconst 0, 1) := by decide +kernel
theorem dc_O_init_273 : decode cb_O_init 273 = .ok (.istore_n 1, 1) := by decide +kernel
theorem dc_O_init_274 : decode cb_O_init 274 = .ok (.iload_n 1, 1) := by decide +kernel
theorem dc_O_init_275 : decode cb_O_init 275 = .ok (.iconst 5, 1) := by decide +kernel
theorem dc_O_init_276 : decode cb_O_init 276 = .ok (.if_icmp .ge 17, 3) := by decide +kernel
theorem dc_O_init_279 : decode cb_O_init 279 = .ok (.aload_n 0, 1) := by decide +kernel
theorem dc_O_init_280 : decode cb_O_init 280 = .ok (.getfield 52, 3) := by decide +kernel
theorem dc_O_init_283 : decode cb_O_init 283 = .ok (.iload_n 1, 1) := by decide +kernel
theorem dc_O_init_284 : decode cb_O_init 284 = .ok (.bipush 24, 2) := by decide +kernel
theorem dc_O_init_286 : decode cb_O_init 286 = .ok (.iastore, 1) := by decide +kernel
theorem dc_O_init_287 : decode cb_O_init 287 = .ok (.iinc 1 1, 3) := by decide +kernel
theorem dc_O_init_290 : decode cb_O_init 290 = .ok (.goto (-16), 3) := by decide +kernel
theorem dc_O_init_293 : decode cb_O_init 293 = .ok (.aload_n 0, 1) := by decide +kernel
theorem dc_O_init_294 : decode cb_O_init 294 = .ok (.getfield 107, 3) := by decide +kernel
theorem dc_O_init_297 : decode cb_O_init 297 = .ok (.bipush 6, 2) := by decide +kernel
theorem dc_O_init_299 : decode cb_O_init 299 = .ok (.iconst (-1), 1) := by decide +kernel
theorem dc_O_init_300 : decode cb_O_init 300 = .ok (.iastore, 1) := by decide +kernel
theorem dc_O_init_301 : decode cb_O_init 301 = .ok (.return_, 1) := by decide +kernel
end
section
set_option maxRecDepth 100000 in
set_option maxHeartbeats 4000000 in
theorem c_S_isAlive (l : Launch) (hl : l.stackTraces = false) (I : th_I) (i : Nat) (hi : i < 5) : th_F l yn_S_isAlive cb_S_isAlive 1 (some .boolean) { frames := 0, cells := 0, slots := 0, locals := 0 } [.inr (some (6, i))] (th_m I) (th_rp I (fun x => x.toInt = 1 ∧ (I 6 i 5).toInt ≠ 0 ∧ (I 6 i 5).toInt ≠ 5 ∨ x.toInt = 0 ∧ ((I 6 i 5).toInt = 0 ∨ (I 6 i 5).toInt = 5))) := by
  refine th_of hl (by decide +kernel) (Nat.le_of_ble_eq_true rfl) (fun z C hQ hN => ?_)
  show th_G l z 1 0 [(0, .inr (some (6, i)))] [] (th_m I) 0 0
  refine th_aload_n C dc_S_isAlive_0 rfl rfl ?_
  refine tq_getI C dc_S_isAlive_1 cl_6 fd_S_37 rfl (show i < 5 from by omega) (fun x1 e1 => ?_)
  have g1 : x1.toInt = (I 6 i 5).toInt := by rw [e1]
  refine tq_if_eq (tgt := 19) C dc_S_isAlive_4 (by decide) rfl (fun c2 => ?_) (fun c2 => ?_)
  · refine th_iconst (v := 0) C dc_S_isAlive_19 th_c_0 ?_
    exact th_zret C hQ dc_S_isAlive_20 (rfl) (by decide) (by decide) ⟨_, rfl, rfl, (by have := th_l_0; first | omega | (dsimp only; omega))⟩
  · refine th_aload_n C dc_S_isAlive_7 rfl rfl ?_
    refine tq_getIe C dc_S_isAlive_8 cl_6 fd_S_37 rfl (show i < 5 from by omega) e1 ?_
    refine th_iconst (v := 5) C dc_S_isAlive_11 th_c_5 ?_
    refine tq_icmp_eq (tgt := 19) C dc_S_isAlive_12 (by decide) rfl th_l_5 (fun c3 => ?_) (fun c3 => ?_)
    · refine th_iconst (v := 0) C dc_S_isAlive_19 th_c_0 ?_
      exact th_zret C hQ dc_S_isAlive_20 (rfl) (by decide) (by decide) ⟨_, rfl, rfl, (by have := th_l_0; first | omega | (dsimp only; omega))⟩
    · refine th_iconst (v := 1) C dc_S_isAlive_15 th_c_1 ?_
      refine th_goto (tgt := 20) C dc_S_isAlive_16 (by decide) ?_
      exact th_zret C hQ dc_S_isAlive_20 (rfl) (by decide) (by decide) ⟨_, rfl, rfl, (by have := th_l_1; first | omega | (dsimp only; omega))⟩

set_option maxRecDepth 100000 in
set_option maxHeartbeats 4000000 in
theorem c_S_forgetInterrupt (l : Launch) (hl : l.stackTraces = false) {K sl : Int} {Z : th_I} (I : th_I) (i : Nat) (hI : th_Inv K sl Z I) (hi : i < 5) : th_F l yn_S_forgetInterrupt cb_S_forgetInterrupt 1 none { frames := 0, cells := 0, slots := 0, locals := 0 } [.inr (some (6, i))] (th_m I) (th_rv (fun J => th_Inv K sl Z J ∧ (True))) := by
  refine th_of hl (by decide +kernel) (Nat.le_of_ble_eq_true rfl) (fun z C hQ hN => ?_)
  show th_G l z 1 0 [(0, .inr (some (6, i)))] [] (th_m I) 0 0
  have hb := hI.2.2.1
  refine th_aload_n C dc_S_forgetInterrupt_0 rfl rfl ?_
  refine th_iconst (v := 0) C dc_S_forgetInterrupt_1 th_c_0 ?_
  refine tq_putZ C dc_S_forgetInterrupt_2 cl_6 fd_S_65 rfl (show i < 5 from by omega) rfl rfl rfl rfl ?_
  refine th_gen (P := fun J => th_Inv K sl Z J ∧ J = th_u I 6 i 11 ((0 : Int32))) ⟨th_put hI (by decide) trivial, rfl⟩ (fun I1 hI1 => ?_)
  obtain ⟨hI1, u1⟩ := hI1
  have e1 : (0 : Int32) = I1 6 i 11 := by rw [u1, th_u_eq]
  have g1 : 0 = (I1 6 i 11).toInt := by rw [← e1]; exact th_l_0.symm
  refine th_aload_n C dc_S_forgetInterrupt_5 rfl rfl ?_
  refine th_iconst (v := 0) C dc_S_forgetInterrupt_6 th_c_0 ?_
  refine tq_putZ C dc_S_forgetInterrupt_7 cl_6 fd_S_69 rfl (show i < 5 from by omega) rfl rfl rfl rfl ?_
  refine th_gen (P := fun J => th_Inv K sl Z J ∧ J = th_u I1 6 i 12 ((0 : Int32))) ⟨th_put hI1 (by decide) trivial, rfl⟩ (fun I2 hI2 => ?_)
  obtain ⟨hI2, u2⟩ := hI2
  have e3 : (0 : Int32) = I2 6 i 11 := by rw [u2, th_u_slot (by decide)]; exact e1
  have g3 : (0 : Int32).toInt = (I2 6 i 11).toInt := by rw [← e3]
  have e2 : (0 : Int32) = I2 6 i 12 := by rw [u2, th_u_eq]
  have g2 : 0 = (I2 6 i 12).toInt := by rw [← e2]; exact th_l_0.symm
  exact th_vret C hQ dc_S_forgetInterrupt_10 (by decide) (by decide) ⟨_, rfl, rfl, hI2, trivial⟩

set_option maxRecDepth 100000 in
set_option maxHeartbeats 4000000 in
theorem c_S_forgetAll (l : Launch) (hl : l.stackTraces = false) {K sl : Int} {Z : th_I} (I : th_I) (i : Nat) (hI : th_Inv K sl Z I) (hi : i < 5) : th_F l yn_S_forgetAll cb_S_forgetAll 1 none { frames := 1, cells := 0, slots := 0, locals := 20 } [.inr (some (6, i))] (th_m I) (th_rv (fun J => th_Inv K sl Z J ∧ (True))) := by
  refine th_of hl (by decide +kernel) (Nat.le_of_ble_eq_true rfl) (fun z C hQ hN => ?_)
  show th_G l z 1 0 [(0, .inr (some (6, i)))] [] (th_m I) 0 0
  have hb := hI.2.2.1
  refine th_aload_n C dc_S_forgetAll_0 rfl rfl ?_
  refine tq_getR C dc_S_forgetAll_1 cl_6 fd_S_23 rfl (show i < 5 from by omega) rfl ?_
  refine th_iconst (v := 0) C dc_S_forgetAll_4 th_c_0 ?_
  refine tq_putI C dc_S_forgetAll_5 cl_11 fd_S_59 rfl (show 2 * i < 10 from by omega) rfl rfl ?_
  refine th_gen (P := fun J => th_Inv K sl Z J ∧ J = th_u I 11 (2 * i) 2 ((0 : Int32))) ⟨th_put hI (by decide) (show 0 ≤ (0 : Int32).toInt ∧ (0 : Int32).toInt ≤ (th_lp (2 * i) : Int) from by rw [th_l_0]; omega), rfl⟩ (fun I1 hI1 => ?_)
  obtain ⟨hI1, u1⟩ := hI1
  have e1 : (0 : Int32) = I1 11 (2 * i) 2 := by rw [u1, th_u_eq]
  have g1 : 0 = (I1 11 (2 * i) 2).toInt := by rw [← e1]; exact th_l_0.symm
  refine th_aload_n C dc_S_forgetAll_8 rfl rfl ?_
  refine tq_getR C dc_S_forgetAll_9 cl_6 fd_S_27 rfl (show i < 5 from by omega) rfl ?_
  refine th_iconst (v := 0) C dc_S_forgetAll_12 th_c_0 ?_
  refine tq_putI C dc_S_forgetAll_13 cl_11 fd_S_59 rfl (show 2 * i + 1 < 10 from by omega) rfl rfl ?_
  refine th_gen (P := fun J => th_Inv K sl Z J ∧ J = th_u I1 11 (2 * i + 1) 2 ((0 : Int32))) ⟨th_put hI1 (by decide) (show 0 ≤ (0 : Int32).toInt ∧ (0 : Int32).toInt ≤ (th_lp (2 * i + 1) : Int) from by rw [th_l_0]; omega), rfl⟩ (fun I2 hI2 => ?_)
  obtain ⟨hI2, u2⟩ := hI2
  have e2 : (0 : Int32) = I2 11 (2 * i + 1) 2 := by rw [u2, th_u_eq]
  have g2 : 0 = (I2 11 (2 * i + 1) 2).toInt := by rw [← e2]; exact th_l_0.symm
  refine th_aload_n C dc_S_forgetAll_16 rfl rfl ?_
  refine th_bipush (v := 24) C dc_S_forgetAll_17 th_b_24 ?_
  refine tq_putI C dc_S_forgetAll_19 cl_6 fd_S_41 rfl (show i < 5 from by omega) rfl rfl ?_
  refine th_gen (P := fun J => th_Inv K sl Z J ∧ J = th_u I2 6 i 8 ((24 : Int32))) ⟨th_put hI2 (by decide) (show 0 ≤ (24 : Int32).toInt ∧ (24 : Int32).toInt ≤ 24 from by rw [th_l_24]; omega), rfl⟩ (fun I3 hI3 => ?_)
  obtain ⟨hI3, u3⟩ := hI3
  have e4 : (0 : Int32) = I3 11 (2 * i + 1) 2 := by rw [u3, th_u_tag (by decide)]; exact e2
  have g4 : (0 : Int32).toInt = (I3 11 (2 * i + 1) 2).toInt := by rw [← e4]
  have e3 : (24 : Int32) = I3 6 i 8 := by rw [u3, th_u_eq]
  have g3 : 24 = (I3 6 i 8).toInt := by rw [← e3]; exact th_l_24.symm
  refine th_aload_n C dc_S_forgetAll_22 rfl rfl ?_
  refine tq_callVv C (c_S_forgetInterrupt l hl I3 i hI3 (by omega)) ok_S_62 cl_6 (show i < 5 from by omega) rfl (Nat.le_of_ble_eq_true rfl) dc_S_forgetAll_23 rfl (fun I5 p5 => ?_)
  obtain ⟨hI5, p5⟩ := p5
  exact th_vret C hQ dc_S_forgetAll_26 (by decide) (by decide) ⟨_, rfl, rfl, hI5, trivial⟩

set_option maxRecDepth 100000 in
set_option maxHeartbeats 4000000 in
theorem c_S_beginAnew (l : Launch) (hl : l.stackTraces = false) {K sl : Int} {Z : th_I} (I : th_I) (i : Nat) (hI : th_Inv K sl Z I) (hi : i < 5) : th_F l yn_S_beginAnew cb_S_beginAnew 1 none { frames := 2, cells := 0, slots := 0, locals := 40 } [.inr (some (6, i))] (th_m I) (th_rv (fun J => th_Inv K sl Z J ∧ (True))) := by
  refine th_of hl (by decide +kernel) (Nat.le_of_ble_eq_true rfl) (fun z C hQ hN => ?_)
  show th_G l z 1 0 [(0, .inr (some (6, i)))] [] (th_m I) 0 0
  have hb := hI.2.2.1
  refine th_aload_n C dc_S_beginAnew_0 rfl rfl ?_
  refine tq_callVv C (c_S_forgetAll l hl I i hI (by omega)) ok_S_47 cl_6 (show i < 5 from by omega) rfl (Nat.le_of_ble_eq_true rfl) dc_S_beginAnew_1 rfl (fun I1 p1 => ?_)
  obtain ⟨hI1, p1⟩ := p1
  refine th_aload_n C dc_S_beginAnew_4 rfl rfl ?_
  refine th_iconst (v := 1) C dc_S_beginAnew_5 th_c_1 ?_
  refine tq_putI C dc_S_beginAnew_6 cl_6 fd_S_37 rfl (show i < 5 from by omega) rfl rfl ?_
  refine th_gen (P := fun J => th_Inv K sl Z J ∧ J = th_u I1 6 i 5 ((1 : Int32))) ⟨th_put hI1 (by decide) trivial, rfl⟩ (fun I2 hI2 => ?_)
  obtain ⟨hI2, u2⟩ := hI2
  have e2 : (1 : Int32) = I2 6 i 5 := by rw [u2, th_u_eq]
  have g2 : 1 = (I2 6 i 5).toInt := by rw [← e2]; exact th_l_1.symm
  refine th_aload_n C dc_S_beginAnew_9 rfl rfl ?_
  refine th_iconst (v := 0) C dc_S_beginAnew_10 th_c_0 ?_
  refine tq_putI C dc_S_beginAnew_11 cl_6 fd_S_50 rfl (show i < 5 from by omega) rfl rfl ?_
  refine th_gen (P := fun J => th_Inv K sl Z J ∧ J = th_u I2 6 i 6 ((0 : Int32))) ⟨th_put hI2 (by decide) (show 0 ≤ (0 : Int32).toInt ∧ (0 : Int32).toInt ≤ 24 from by rw [th_l_0]; omega), rfl⟩ (fun I3 hI3 => ?_)
  obtain ⟨hI3, u3⟩ := hI3
  have e4 : (1 : Int32) = I3 6 i 5 := by rw [u3, th_u_slot (by decide)]; exact e2
  have g4 : (1 : Int32).toInt = (I3 6 i 5).toInt := by rw [← e4]
  have e3 : (0 : Int32) = I3 6 i 6 := by rw [u3, th_u_eq]
  have g3 : 0 = (I3 6 i 6).toInt := by rw [← e3]; exact th_l_0.symm
  refine th_aload_n C dc_S_beginAnew_14 rfl rfl ?_
  refine th_iconst (v := 0) C dc_S_beginAnew_15 th_c_0 ?_
  refine tq_putI C dc_S_beginAnew_16 cl_6 fd_S_53 rfl (show i < 5 from by omega) rfl rfl ?_
  refine th_gen (P := fun J => th_Inv K sl Z J ∧ J = th_u I3 6 i 9 ((0 : Int32))) ⟨th_put hI3 (by decide) trivial, rfl⟩ (fun I5 hI5 => ?_)
  obtain ⟨hI5, u5⟩ := hI5
  have e6 : (1 : Int32) = I5 6 i 5 := by rw [u5, th_u_slot (by decide)]; exact e4
  have g6 : (1 : Int32).toInt = (I5 6 i 5).toInt := by rw [← e6]
  have e7 : (0 : Int32) = I5 6 i 6 := by rw [u5, th_u_slot (by decide)]; exact e3
  have g7 : (0 : Int32).toInt = (I5 6 i 6).toInt := by rw [← e7]
  have e5 : (0 : Int32) = I5 6 i 9 := by rw [u5, th_u_eq]
  have g5 : 0 = (I5 6 i 9).toInt := by rw [← e5]; exact th_l_0.symm
  refine th_aload_n C dc_S_beginAnew_19 rfl rfl ?_
  refine th_dup C dc_S_beginAnew_20 ?_
  refine tq_getI C dc_S_beginAnew_21 cl_6 fd_S_56 rfl (show i < 5 from by omega) (fun x8 e8 => ?_)
  have g8 : x8.toInt = (I5 6 i 10).toInt := by rw [e8]
  refine th_iconst (v := 1) C dc_S_beginAnew_24 th_c_1 ?_
  refine tq_iadd C dc_S_beginAnew_25 rfl th_l_1 (fun x9 e9 a9 => ?_)
  refine tq_putI C dc_S_beginAnew_26 cl_6 fd_S_56 rfl (show i < 5 from by omega) rfl rfl ?_
  refine th_gen (P := fun J => th_Inv K sl Z J ∧ J = th_u I5 6 i 10 x9) ⟨th_put hI5 (by decide) trivial, rfl⟩ (fun I10 hI10 => ?_)
  obtain ⟨hI10, u10⟩ := hI10
  have e11 : (1 : Int32) = I10 6 i 5 := by rw [u10, th_u_slot (by decide)]; exact e6
  have g11 : (1 : Int32).toInt = (I10 6 i 5).toInt := by rw [← e11]
  have e12 : (0 : Int32) = I10 6 i 6 := by rw [u10, th_u_slot (by decide)]; exact e7
  have g12 : (0 : Int32).toInt = (I10 6 i 6).toInt := by rw [← e12]
  have e13 : (0 : Int32) = I10 6 i 9 := by rw [u10, th_u_slot (by decide)]; exact e5
  have g13 : (0 : Int32).toInt = (I10 6 i 9).toInt := by rw [← e13]
  have e10 : x9 = I10 6 i 10 := by rw [u10, th_u_eq]
  have g10 : x9.toInt = (I10 6 i 10).toInt := by rw [← e10]
  exact th_vret C hQ dc_S_beginAnew_29 (by decide) (by decide) ⟨_, rfl, rfl, hI10, trivial⟩

set_option maxRecDepth 100000 in
set_option maxHeartbeats 4000000 in
theorem c_P_append (l : Launch) (hl : l.stackTraces = false) {K sl : Int} {Z : th_I} (I : th_I) (i : Nat) (a : Int32) (b : Int32) (c : Int32) (hI : th_Inv K sl Z I) (hi : i < 5) (hv : th_valid a.toInt b.toInt c.toInt) : th_F l yn_P_append cb_P_append 4 none { frames := 0, cells := 0, slots := 0, locals := 0 } [.inr (some (7, i)), .inl a, .inl b, .inl c] (th_m I) (th_rv (fun J => th_Inv K sl Z J ∧ ((I 7 i 3).toInt < 24 → (J 7 i 3).toInt = (I 7 i 3).toInt + 1))) := by
  refine th_of hl (by decide +kernel) (Nat.le_of_ble_eq_true rfl) (fun z C hQ hN => ?_)
  show th_G l z 4 0 [(0, .inr (some (7, i))), (1, .inl a), (2, .inl b), (3, .inl c)] [] (th_m I) 0 0
  have hb := hI.2.2.1
  refine th_aload_n C dc_P_append_0 rfl rfl ?_
  refine tq_getI C dc_P_append_1 cl_7 fd_P_21 rfl (show i < 5 from by omega) (fun x1 e1 => ?_)
  have g1 : x1.toInt = (I 7 i 3).toInt := by rw [e1]
  have r1 : 0 ≤ x1.toInt ∧ x1.toInt ≤ 24 := by rw [e1]; exact hI.1 7 i 3
  refine th_bipush (v := 24) C dc_P_append_4 th_b_24 ?_
  refine tq_icmp_ge (tgt := 49) C dc_P_append_6 (by decide) rfl th_l_24 (fun c2 => ?_) (fun c2 => ?_)
  · exact th_vret C hQ dc_P_append_49 (by decide) (by decide) ⟨_, rfl, rfl, hI, fun q => absurd q (by omega)⟩
  · refine th_aload_n C dc_P_append_9 rfl rfl ?_
    refine tq_getR C dc_P_append_10 cl_7 fd_P_9 rfl (show i < 5 from by omega) rfl ?_
    refine th_aload_n C dc_P_append_13 rfl rfl ?_
    refine tq_getIe C dc_P_append_14 cl_7 fd_P_21 rfl (show i < 5 from by omega) e1 ?_
    refine th_iload_n C dc_P_append_17 rfl rfl ?_
    obtain ⟨n3, m3⟩ := th_nat (a := x1.toInt) (by omega)
    refine tq_iastN C dc_P_append_18 rfl (fun _ => rfl) (show i < 5 from by omega) rfl m3 (show n3 < 24 from by omega) ?_
    refine th_gen (P := fun J => J = th_u I 8 i n3 a) rfl (fun I4 u4 => ?_)
    have e5 : x1 = I4 7 i 3 := by rw [u4, th_u_tag (by decide)]; exact e1
    have g5 : x1.toInt = (I4 7 i 3).toInt := by rw [← e5]
    have e4 : a = I4 8 i n3 := by rw [u4, th_u_eq]
    have g4 : a.toInt = (I4 8 i n3).toInt := by rw [← e4]
    refine th_aload_n C dc_P_append_19 rfl rfl ?_
    refine tq_getR C dc_P_append_20 cl_7 fd_P_15 rfl (show i < 5 from by omega) rfl ?_
    refine th_aload_n C dc_P_append_23 rfl rfl ?_
    refine tq_getIe C dc_P_append_24 cl_7 fd_P_21 rfl (show i < 5 from by omega) e5 ?_
    refine th_iload_n C dc_P_append_27 rfl rfl ?_
    refine tq_iastN C dc_P_append_28 rfl (fun _ => rfl) (show i < 5 from by omega) rfl m3 (show n3 < 24 from by omega) ?_
    refine th_gen (P := fun J => J = th_u I4 9 i n3 b) rfl (fun I6 u6 => ?_)
    have e7 : x1 = I6 7 i 3 := by rw [u6, th_u_tag (by decide)]; exact e5
    have g7 : x1.toInt = (I6 7 i 3).toInt := by rw [← e7]
    have e8 : a = I6 8 i n3 := by rw [u6, th_u_tag (by decide)]; exact e4
    have g8 : a.toInt = (I6 8 i n3).toInt := by rw [← e8]
    have e6 : b = I6 9 i n3 := by rw [u6, th_u_eq]
    have g6 : b.toInt = (I6 9 i n3).toInt := by rw [← e6]
    refine th_aload_n C dc_P_append_29 rfl rfl ?_
    refine tq_getR C dc_P_append_30 cl_7 fd_P_18 rfl (show i < 5 from by omega) rfl ?_
    refine th_aload_n C dc_P_append_33 rfl rfl ?_
    refine tq_getIe C dc_P_append_34 cl_7 fd_P_21 rfl (show i < 5 from by omega) e7 ?_
    refine th_iload_n C dc_P_append_37 rfl rfl ?_
    refine tq_iastN C dc_P_append_38 rfl (fun _ => rfl) (show i < 5 from by omega) rfl m3 (show n3 < 24 from by omega) ?_
    refine th_gen (P := fun J => J = th_u I6 10 i n3 c) rfl (fun I9 u9 => ?_)
    have e10 : x1 = I9 7 i 3 := by rw [u9, th_u_tag (by decide)]; exact e7
    have g10 : x1.toInt = (I9 7 i 3).toInt := by rw [← e10]
    have e11 : a = I9 8 i n3 := by rw [u9, th_u_tag (by decide)]; exact e8
    have g11 : a.toInt = (I9 8 i n3).toInt := by rw [← e11]
    have e12 : b = I9 9 i n3 := by rw [u9, th_u_tag (by decide)]; exact e6
    have g12 : b.toInt = (I9 9 i n3).toInt := by rw [← e12]
    have e9 : c = I9 10 i n3 := by rw [u9, th_u_eq]
    have g9 : c.toInt = (I9 10 i n3).toInt := by rw [← e9]
    refine th_aload_n C dc_P_append_39 rfl rfl ?_
    refine th_dup C dc_P_append_40 ?_
    refine tq_getIe C dc_P_append_41 cl_7 fd_P_21 rfl (show i < 5 from by omega) e10 ?_
    refine th_iconst (v := 1) C dc_P_append_44 th_c_1 ?_
    refine tq_iadd C dc_P_append_45 rfl th_l_1 (fun x13 e13 a13 => ?_)
    refine tq_putI C dc_P_append_46 cl_7 fd_P_21 rfl (show i < 5 from by omega) rfl rfl ?_
    refine th_gen (P := fun J => J = th_u I9 7 i 3 x13) rfl (fun I14 u14 => ?_)
    have e15 : a = I14 8 i n3 := by rw [u14, th_u_tag (by decide)]; exact e11
    have g15 : a.toInt = (I14 8 i n3).toInt := by rw [← e15]
    have e16 : b = I14 9 i n3 := by rw [u14, th_u_tag (by decide)]; exact e12
    have g16 : b.toInt = (I14 9 i n3).toInt := by rw [← e16]
    have e17 : c = I14 10 i n3 := by rw [u14, th_u_tag (by decide)]; exact e9
    have g17 : c.toInt = (I14 10 i n3).toInt := by rw [← e17]
    have e14 : x13 = I14 7 i 3 := by rw [u14, th_u_eq]
    have g14 : x13.toInt = (I14 7 i 3).toInt := by rw [← e14]
    exact th_vret C hQ dc_P_append_49 (by decide) (by decide) ⟨_, rfl, rfl, (by rw [u14, u9, u6, u4]; exact th_app hI rfl rfl hv (by omega)), fun _ => (by omega)⟩

set_option maxRecDepth 100000 in
set_option maxHeartbeats 4000000 in
theorem c_Q_isFull (l : Launch) (hl : l.stackTraces = false) {K sl : Int} {Z : th_I} (I : th_I) (j : Nat) (hI : th_Inv K sl Z I) (hj : j < 10) : th_F l yn_Q_isFull cb_Q_isFull 1 (some .boolean) { frames := 0, cells := 0, slots := 0, locals := 0 } [.inr (some (11, j))] (th_m I) (th_rp I (fun x => x.toInt = 1 ∧ (th_lp j : Int) ≤ (I 11 j 2).toInt ∨ x.toInt = 0 ∧ (I 11 j 2).toInt < (th_lp j : Int))) := by
  refine th_of hl (by decide +kernel) (Nat.le_of_ble_eq_true rfl) (fun z C hQ hN => ?_)
  show th_G l z 1 0 [(0, .inr (some (11, j)))] [] (th_m I) 0 0
  have hb := hI.2.2.1
  have hlp := th_lp_le j
  refine th_aload_n C dc_Q_isFull_0 rfl rfl ?_
  refine tq_getI C dc_Q_isFull_1 cl_11 fd_Q_18 rfl (show j < 10 from by omega) (fun x1 e1 => ?_)
  have g1 : x1.toInt = (I 11 j 2).toInt := by rw [e1]
  have r1 : 0 ≤ x1.toInt ∧ x1.toInt ≤ (th_lp j : Int) := by rw [e1]; exact hI.1 11 j 2
  refine th_aload_n C dc_Q_isFull_4 rfl rfl ?_
  refine tq_getR C dc_Q_isFull_5 cl_11 fd_Q_9 rfl (show j < 10 from by omega) rfl ?_
  obtain ⟨x2, e2⟩ : ∃ r : Int32, nI (th_lp j) = r := ⟨_, rfl⟩
  have a2 := th_nI_12 e2
  refine tq_alen (v := x2) C dc_Q_isFull_8 rfl (fun _ => rfl) (show j < 10 from by omega) e2 ?_
  refine tq_icmp_lt (tgt := 16) C dc_Q_isFull_9 (by decide) rfl rfl (fun c3 => ?_) (fun c3 => ?_)
  · refine th_iconst (v := 0) C dc_Q_isFull_16 th_c_0 ?_
    exact th_zret C hQ dc_Q_isFull_17 (rfl) (by decide) (by decide) ⟨_, rfl, rfl, (by have := th_l_0; first | omega | (dsimp only; omega))⟩
  · refine th_iconst (v := 1) C dc_Q_isFull_12 th_c_1 ?_
    refine th_goto (tgt := 17) C dc_Q_isFull_13 (by decide) ?_
    exact th_zret C hQ dc_Q_isFull_17 (rfl) (by decide) (by decide) ⟨_, rfl, rfl, (by have := th_l_1; first | omega | (dsimp only; omega))⟩

set_option maxRecDepth 100000 in
set_option maxHeartbeats 4000000 in
theorem c_Q_latest (l : Launch) (hl : l.stackTraces = false) {K sl : Int} {Z : th_I} (I : th_I) (j : Nat) (s : Int32) (hI : th_Inv K sl Z I) (hj : j < 10) : th_F l yn_Q_latest cb_Q_latest 3 (some .int) { frames := 0, cells := 0, slots := 0, locals := 0 } [.inr (some (11, j)), .inl s] (th_m I) (th_rp I (fun x => -1 ≤ x.toInt ∧ x.toInt < (I 11 j 2).toInt ∧ x.toInt < (th_lp j : Int) ∨ x.toInt = -1)) := by
  refine th_of hl (by decide +kernel) (Nat.le_of_ble_eq_true rfl) (fun z C hQ hN => ?_)
  show th_G l z 3 0 [(0, .inr (some (11, j))), (1, .inl s)] [] (th_m I) 0 0
  have hb := hI.2.2.1
  have hlp := th_lp_le j
  refine th_aload_n C dc_Q_latest_0 rfl rfl ?_
  refine tq_getI C dc_Q_latest_1 cl_11 fd_Q_18 rfl (show j < 10 from by omega) (fun x1 e1 => ?_)
  have g1 : x1.toInt = (I 11 j 2).toInt := by rw [e1]
  have r1 : 0 ≤ x1.toInt ∧ x1.toInt ≤ (th_lp j : Int) := by rw [e1]; exact hI.1 11 j 2
  refine th_iconst (v := 1) C dc_Q_latest_4 th_c_1 ?_
  refine tq_isub C dc_Q_latest_5 rfl th_l_1 (fun x2 e2 a2 => ?_)
  refine th_istore_n (lv' := [(0, .inr (some (11, j))), (1, .inl s), (2, .inl x2)]) C dc_Q_latest_6 rfl (by decide) rfl ?_
  have L7 : ∀ (N : Nat) (k : Int32), (-1 ≤ k.toInt ∧ k.toInt < (I 11 j 2).toInt) → (k.toInt + 1).toNat < N → th_G l z 3 7 [(0, .inr (some (11, j))), (1, .inl s), (2, .inl k)] [] (th_m I) 0 0 := by
    intro N
    induction N with
    | zero => intro k h1 hm; exact absurd hm (Nat.not_lt_zero _)
    | succ N ih =>
      intro k h1 hm
      refine th_iload_n C dc_Q_latest_7 rfl rfl ?_
      refine tq_if_lt (tgt := 29) C dc_Q_latest_8 (by decide) rfl (fun c4 => ?_) (fun c4 => ?_)
      · refine th_iconst (v := -1) C dc_Q_latest_29 th_c_m1 ?_
        exact th_iret C hQ dc_Q_latest_30 (by decide) (by decide) ⟨_, rfl, rfl, (by have := th_l_m1; first | omega | (dsimp only; omega))⟩
      · refine th_aload_n C dc_Q_latest_11 rfl rfl ?_
        refine tq_getR C dc_Q_latest_12 cl_11 fd_Q_9 rfl (show j < 10 from by omega) rfl ?_
        refine th_iload_n C dc_Q_latest_15 rfl rfl ?_
        obtain ⟨n6, m6⟩ := th_nat (a := k.toInt) (by omega)
        refine tq_ialdN C dc_Q_latest_16 rfl (fun _ => rfl) (show j < 10 from by omega) rfl m6 (show n6 < th_lp j from by omega) (fun x5 e5 => ?_)
        have g5 : x5.toInt = (I 12 j n6).toInt := by rw [e5]
        have r5 : 0 ≤ x5.toInt ∧ x5.toInt ≤ 3 := by rw [e5]; exact hI.1 12 j n6
        refine th_iload_n C dc_Q_latest_17 rfl rfl ?_
        refine tq_icmp_ne (tgt := 23) C dc_Q_latest_18 (by decide) rfl rfl (fun c7 => ?_) (fun c7 => ?_)
        · refine tq_iinc (lv' := fun rr => [(0, .inr (some (11, j))), (1, .inl s), (2, .inl rr)]) C dc_Q_latest_23 rfl (by decide) th_c_m1 rfl th_l_m1 (fun rr => rfl) (fun x8 e8 a8 => ?_)
          refine th_goto (tgt := 7) C dc_Q_latest_26 (by decide) ?_
          exact ih x8 (by omega) (by omega)
        · refine th_iload_n C dc_Q_latest_21 rfl rfl ?_
          exact th_iret C hQ dc_Q_latest_22 (by decide) (by decide) ⟨_, rfl, rfl, (by first | omega | (dsimp only; omega))⟩
  exact L7 _ x2 (by omega) (Nat.lt_succ_self _)

set_option maxRecDepth 100000 in
set_option maxHeartbeats 4000000 in
theorem c_Q_append (l : Launch) (hl : l.stackTraces = false) {K sl : Int} {Z : th_I} (I : th_I) (j : Nat) (s : Int32) (v : Int32) (hI : th_Inv K sl Z I) (hj : j < 10) (hs : 0 ≤ s.toInt ∧ s.toInt ≤ 3) : th_F l yn_Q_append cb_Q_append 3 none { frames := 1, cells := 0, slots := 0, locals := 20 } [.inr (some (11, j)), .inl s, .inl v] (th_m I) (th_rv (fun J => th_Inv K sl Z J ∧ (True))) := by
  refine th_of hl (by decide +kernel) (Nat.le_of_ble_eq_true rfl) (fun z C hQ hN => ?_)
  show th_G l z 3 0 [(0, .inr (some (11, j))), (1, .inl s), (2, .inl v)] [] (th_m I) 0 0
  have hb := hI.2.2.1
  have hlp := th_lp_le j
  refine th_aload_n C dc_Q_append_0 rfl rfl ?_
  refine tq_callVp C (c_Q_isFull l hl I j hI (by omega)) ok_Q_22 cl_11 (show j < 10 from by omega) rfl (Nat.le_of_ble_eq_true rfl) dc_Q_append_1 rfl (fun x1 p1 => ?_)
  refine tq_if_ne (tgt := 37) C dc_Q_append_4 (by decide) rfl (fun c2 => ?_) (fun c2 => ?_)
  · exact th_vret C hQ dc_Q_append_37 (by decide) (by decide) ⟨_, rfl, rfl, hI, trivial⟩
  · refine th_aload_n C dc_Q_append_7 rfl rfl ?_
    refine tq_getR C dc_Q_append_8 cl_11 fd_Q_9 rfl (show j < 10 from by omega) rfl ?_
    refine th_aload_n C dc_Q_append_11 rfl rfl ?_
    refine tq_getI C dc_Q_append_12 cl_11 fd_Q_18 rfl (show j < 10 from by omega) (fun x3 e3 => ?_)
    have g3 : x3.toInt = (I 11 j 2).toInt := by rw [e3]
    have r3 : 0 ≤ x3.toInt ∧ x3.toInt ≤ (th_lp j : Int) := by rw [e3]; exact hI.1 11 j 2
    refine th_iload_n C dc_Q_append_15 rfl rfl ?_
    obtain ⟨n4, m4⟩ := th_nat (a := x3.toInt) (by omega)
    refine tq_iastN C dc_Q_append_16 rfl (fun _ => rfl) (show j < 10 from by omega) rfl m4 (show n4 < th_lp j from by omega) ?_
    refine th_gen (P := fun J => th_Inv K sl Z J ∧ J = th_u I 12 j n4 s) ⟨th_put hI (by decide) (show 0 ≤ s.toInt ∧ s.toInt ≤ 3 from by omega), rfl⟩ (fun I5 hI5 => ?_)
    obtain ⟨hI5, u5⟩ := hI5
    have e6 : x3 = I5 11 j 2 := by rw [u5, th_u_tag (by decide)]; exact e3
    have g6 : x3.toInt = (I5 11 j 2).toInt := by rw [← e6]
    have e5 : s = I5 12 j n4 := by rw [u5, th_u_eq]
    have g5 : s.toInt = (I5 12 j n4).toInt := by rw [← e5]
    refine th_aload_n C dc_Q_append_17 rfl rfl ?_
    refine tq_getR C dc_Q_append_18 cl_11 fd_Q_15 rfl (show j < 10 from by omega) rfl ?_
    refine th_aload_n C dc_Q_append_21 rfl rfl ?_
    refine tq_getIe C dc_Q_append_22 cl_11 fd_Q_18 rfl (show j < 10 from by omega) e6 ?_
    refine th_iload_n C dc_Q_append_25 rfl rfl ?_
    refine tq_iastN C dc_Q_append_26 rfl (fun _ => rfl) (show j < 10 from by omega) rfl m4 (show n4 < th_lp j from by omega) ?_
    refine th_gen (P := fun J => th_Inv K sl Z J ∧ J = th_u I5 13 j n4 v) ⟨th_put hI5 (by decide) trivial, rfl⟩ (fun I7 hI7 => ?_)
    obtain ⟨hI7, u7⟩ := hI7
    have e8 : x3 = I7 11 j 2 := by rw [u7, th_u_tag (by decide)]; exact e6
    have g8 : x3.toInt = (I7 11 j 2).toInt := by rw [← e8]
    have e9 : s = I7 12 j n4 := by rw [u7, th_u_tag (by decide)]; exact e5
    have g9 : s.toInt = (I7 12 j n4).toInt := by rw [← e9]
    have e7 : v = I7 13 j n4 := by rw [u7, th_u_eq]
    have g7 : v.toInt = (I7 13 j n4).toInt := by rw [← e7]
    refine th_aload_n C dc_Q_append_27 rfl rfl ?_
    refine th_dup C dc_Q_append_28 ?_
    refine tq_getIe C dc_Q_append_29 cl_11 fd_Q_18 rfl (show j < 10 from by omega) e8 ?_
    refine th_iconst (v := 1) C dc_Q_append_32 th_c_1 ?_
    refine tq_iadd C dc_Q_append_33 rfl th_l_1 (fun x10 e10 a10 => ?_)
    refine tq_putI C dc_Q_append_34 cl_11 fd_Q_18 rfl (show j < 10 from by omega) rfl rfl ?_
    refine th_gen (P := fun J => th_Inv K sl Z J ∧ J = th_u I7 11 j 2 x10) ⟨th_put hI7 (by decide) (show 0 ≤ x10.toInt ∧ x10.toInt ≤ (th_lp j : Int) from by omega), rfl⟩ (fun I11 hI11 => ?_)
    obtain ⟨hI11, u11⟩ := hI11
    have e12 : s = I11 12 j n4 := by rw [u11, th_u_tag (by decide)]; exact e9
    have g12 : s.toInt = (I11 12 j n4).toInt := by rw [← e12]
    have e13 : v = I11 13 j n4 := by rw [u11, th_u_tag (by decide)]; exact e7
    have g13 : v.toInt = (I11 13 j n4).toInt := by rw [← e13]
    have e11 : x10 = I11 11 j 2 := by rw [u11, th_u_eq]
    have g11 : x10.toInt = (I11 11 j 2).toInt := by rw [← e11]
    exact th_vret C hQ dc_Q_append_37 (by decide) (by decide) ⟨_, rfl, rfl, hI11, trivial⟩

set_option maxRecDepth 100000 in
set_option maxHeartbeats 4000000 in
theorem c_Q_takeOut (l : Launch) (hl : l.stackTraces = false) {K sl : Int} {Z : th_I} (I : th_I) (j : Nat) (a : Int32) (hI : th_Inv K sl Z I) (hj : j < 10) (ha : 0 ≤ a.toInt ∧ a.toInt < (I 11 j 2).toInt) : th_F l yn_Q_takeOut cb_Q_takeOut 3 none { frames := 0, cells := 0, slots := 0, locals := 0 } [.inr (some (11, j)), .inl a] (th_m I) (th_rv (fun J => th_Inv K sl Z J ∧ (True))) := by
  refine th_of hl (by decide +kernel) (Nat.le_of_ble_eq_true rfl) (fun z C hQ hN => ?_)
  show th_G l z 3 0 [(0, .inr (some (11, j))), (1, .inl a)] [] (th_m I) 0 0
  have hb := hI.2.2.1
  have hlp := th_lp_le j
  have hs0 : 0 ≤ (I 11 j 2).toInt ∧ (I 11 j 2).toInt ≤ (th_lp j : Int) := hI.1 11 j 2
  refine th_iload_n C dc_Q_takeOut_0 rfl rfl ?_
  refine th_iconst (v := 1) C dc_Q_takeOut_1 th_c_1 ?_
  refine tq_iadd C dc_Q_takeOut_2 rfl th_l_1 (fun x1 e1 a1 => ?_)
  refine th_istore_n (lv' := [(0, .inr (some (11, j))), (1, .inl a), (2, .inl x1)]) C dc_Q_takeOut_3 rfl (by decide) rfl ?_
  have L4 : ∀ (N : Nat) (k : Int32) (I2 : th_I), (th_Inv K sl Z I2) → (1 ≤ k.toInt ∧ k.toInt ≤ 13 ∧ k.toInt ≤ (I 11 j 2).toInt) → ((I2 11 j 2).toInt = (I 11 j 2).toInt) → (13 - k.toInt).toNat < N → th_G l z 3 4 [(0, .inr (some (11, j))), (1, .inl a), (2, .inl k)] [] (th_m I2) 0 0 := by
    intro N
    induction N with
    | zero => intro k I2 hI2 h1 h2 hm; exact absurd hm (Nat.not_lt_zero _)
    | succ N ih =>
      intro k I2 hI2 h1 h2 hm
      refine th_iload_n C dc_Q_takeOut_4 rfl rfl ?_
      refine th_aload_n C dc_Q_takeOut_5 rfl rfl ?_
      refine tq_getI C dc_Q_takeOut_6 cl_11 fd_Q_18 rfl (show j < 10 from by omega) (fun x3 e3 => ?_)
      have g3 : x3.toInt = (I2 11 j 2).toInt := by rw [e3]
      have r3 : 0 ≤ x3.toInt ∧ x3.toInt ≤ (th_lp j : Int) := by rw [e3]; exact hI2.1 11 j 2
      refine tq_icmp_ge (tgt := 46) C dc_Q_takeOut_9 (by decide) rfl rfl (fun c4 => ?_) (fun c4 => ?_)
      · refine th_aload_n C dc_Q_takeOut_46 rfl rfl ?_
        refine th_dup C dc_Q_takeOut_47 ?_
        refine tq_getIe C dc_Q_takeOut_48 cl_11 fd_Q_18 rfl (show j < 10 from by omega) e3 ?_
        refine th_iconst (v := 1) C dc_Q_takeOut_51 th_c_1 ?_
        refine tq_isub C dc_Q_takeOut_52 rfl th_l_1 (fun x5 e5 a5 => ?_)
        refine tq_putI C dc_Q_takeOut_53 cl_11 fd_Q_18 rfl (show j < 10 from by omega) rfl rfl ?_
        refine th_gen (P := fun J => th_Inv K sl Z J ∧ J = th_u I2 11 j 2 x5) ⟨th_put hI2 (by decide) (show 0 ≤ x5.toInt ∧ x5.toInt ≤ (th_lp j : Int) from by omega), rfl⟩ (fun I6 hI6 => ?_)
        obtain ⟨hI6, u6⟩ := hI6
        have e6 : x5 = I6 11 j 2 := by rw [u6, th_u_eq]
        have g6 : x5.toInt = (I6 11 j 2).toInt := by rw [← e6]
        exact th_vret C hQ dc_Q_takeOut_56 (by decide) (by decide) ⟨_, rfl, rfl, hI6, trivial⟩
      · refine th_aload_n C dc_Q_takeOut_12 rfl rfl ?_
        refine tq_getR C dc_Q_takeOut_13 cl_11 fd_Q_9 rfl (show j < 10 from by omega) rfl ?_
        refine th_iload_n C dc_Q_takeOut_16 rfl rfl ?_
        refine th_iconst (v := 1) C dc_Q_takeOut_17 th_c_1 ?_
        refine tq_isub C dc_Q_takeOut_18 rfl th_l_1 (fun x7 e7 a7 => ?_)
        refine th_aload_n C dc_Q_takeOut_19 rfl rfl ?_
        refine tq_getR C dc_Q_takeOut_20 cl_11 fd_Q_9 rfl (show j < 10 from by omega) rfl ?_
        refine th_iload_n C dc_Q_takeOut_23 rfl rfl ?_
        obtain ⟨n9, m9⟩ := th_nat (a := k.toInt) (by omega)
        refine tq_ialdN C dc_Q_takeOut_24 rfl (fun _ => rfl) (show j < 10 from by omega) rfl m9 (show n9 < th_lp j from by omega) (fun x8 e8 => ?_)
        have g8 : x8.toInt = (I2 12 j n9).toInt := by rw [e8]
        have r8 : 0 ≤ x8.toInt ∧ x8.toInt ≤ 3 := by rw [e8]; exact hI2.1 12 j n9
        obtain ⟨n10, m10⟩ := th_nat (a := x7.toInt) (by omega)
        refine tq_iastN C dc_Q_takeOut_25 rfl (fun _ => rfl) (show j < 10 from by omega) rfl m10 (show n10 < th_lp j from by omega) ?_
        refine th_gen (P := fun J => th_Inv K sl Z J ∧ J = th_u I2 12 j n10 x8) ⟨th_put hI2 (by decide) (show 0 ≤ x8.toInt ∧ x8.toInt ≤ 3 from by omega), rfl⟩ (fun I11 hI11 => ?_)
        obtain ⟨hI11, u11⟩ := hI11
        have e12 : x3 = I11 11 j 2 := by rw [u11, th_u_tag (by decide)]; exact e3
        have g12 : x3.toInt = (I11 11 j 2).toInt := by rw [← e12]
        have e11 : x8 = I11 12 j n10 := by rw [u11, th_u_eq]
        have g11 : x8.toInt = (I11 12 j n10).toInt := by rw [← e11]
        refine th_aload_n C dc_Q_takeOut_26 rfl rfl ?_
        refine tq_getR C dc_Q_takeOut_27 cl_11 fd_Q_15 rfl (show j < 10 from by omega) rfl ?_
        refine th_iload_n C dc_Q_takeOut_30 rfl rfl ?_
        refine th_iconst (v := 1) C dc_Q_takeOut_31 th_c_1 ?_
        refine tq_isub C dc_Q_takeOut_32 rfl th_l_1 (fun x13 e13 a13 => ?_)
        refine th_aload_n C dc_Q_takeOut_33 rfl rfl ?_
        refine tq_getR C dc_Q_takeOut_34 cl_11 fd_Q_15 rfl (show j < 10 from by omega) rfl ?_
        refine th_iload_n C dc_Q_takeOut_37 rfl rfl ?_
        refine tq_ialdN C dc_Q_takeOut_38 rfl (fun _ => rfl) (show j < 10 from by omega) rfl m9 (show n9 < th_lp j from by omega) (fun x14 e14 => ?_)
        have g14 : x14.toInt = (I11 13 j n9).toInt := by rw [e14]
        obtain ⟨n15, m15⟩ := th_nat (a := x13.toInt) (by omega)
        refine tq_iastN C dc_Q_takeOut_39 rfl (fun _ => rfl) (show j < 10 from by omega) rfl m15 (show n15 < th_lp j from by omega) ?_
        refine th_gen (P := fun J => th_Inv K sl Z J ∧ J = th_u I11 13 j n15 x14) ⟨th_put hI11 (by decide) trivial, rfl⟩ (fun I16 hI16 => ?_)
        obtain ⟨hI16, u16⟩ := hI16
        have e17 : x3 = I16 11 j 2 := by rw [u16, th_u_tag (by decide)]; exact e12
        have g17 : x3.toInt = (I16 11 j 2).toInt := by rw [← e17]
        have e18 : x8 = I16 12 j n10 := by rw [u16, th_u_tag (by decide)]; exact e11
        have g18 : x8.toInt = (I16 12 j n10).toInt := by rw [← e18]
        have e16 : x14 = I16 13 j n15 := by rw [u16, th_u_eq]
        have g16 : x14.toInt = (I16 13 j n15).toInt := by rw [← e16]
        refine tq_iinc (lv' := fun rr => [(0, .inr (some (11, j))), (1, .inl a), (2, .inl rr)]) C dc_Q_takeOut_40 rfl (by decide) th_c_1 rfl th_l_1 (fun rr => rfl) (fun x19 e19 a19 => ?_)
        refine th_goto (tgt := 4) C dc_Q_takeOut_43 (by decide) ?_
        exact ih x19 I16 hI16 (by omega) (by omega) (by omega)
  exact L4 _ x1 I hI (by omega) (by omega) (Nat.lt_succ_self _)

set_option maxRecDepth 100000 in
set_option maxHeartbeats 4000000 in
theorem c_R_append (l : Launch) (hl : l.stackTraces = false) {K sl : Int} {Z : th_I} (I : th_I) (r : Nat) (t : Int32) (hI : th_Inv K sl Z I) (hr : r < 11) (ht : 0 ≤ t.toInt ∧ t.toInt ≤ 4) : th_F l yn_R_append cb_R_append 2 none { frames := 0, cells := 0, slots := 0, locals := 0 } [.inr (some (14, r)), .inl t] (th_m I) (th_rv (fun J => th_Inv K sl Z J ∧ (True))) := by
  refine th_of hl (by decide +kernel) (Nat.le_of_ble_eq_true rfl) (fun z C hQ hN => ?_)
  show th_G l z 2 0 [(0, .inr (some (14, r))), (1, .inl t)] [] (th_m I) 0 0
  have hb := hI.2.2.1
  refine th_aload_n C dc_R_append_0 rfl rfl ?_
  refine tq_getI C dc_R_append_1 cl_14 fd_R_15 rfl (show r < 11 from by omega) (fun x1 e1 => ?_)
  have g1 : x1.toInt = (I 14 r 1).toInt := by rw [e1]
  have r1 : 0 ≤ x1.toInt ∧ x1.toInt ≤ 5 := by rw [e1]; exact hI.1 14 r 1
  refine th_iconst (v := 5) C dc_R_append_4 th_c_5 ?_
  refine tq_icmp_ge (tgt := 28) C dc_R_append_5 (by decide) rfl th_l_5 (fun c2 => ?_) (fun c2 => ?_)
  · exact th_vret C hQ dc_R_append_28 (by decide) (by decide) ⟨_, rfl, rfl, hI, trivial⟩
  · refine th_aload_n C dc_R_append_8 rfl rfl ?_
    refine tq_getR C dc_R_append_9 cl_14 fd_R_9 rfl (show r < 11 from by omega) rfl ?_
    refine th_aload_n C dc_R_append_12 rfl rfl ?_
    refine tq_getIe C dc_R_append_13 cl_14 fd_R_15 rfl (show r < 11 from by omega) e1 ?_
    refine th_iload_n C dc_R_append_16 rfl rfl ?_
    obtain ⟨n3, m3⟩ := th_nat (a := x1.toInt) (by omega)
    refine tq_iastN C dc_R_append_17 rfl (fun _ => rfl) (show r < 11 from by omega) rfl m3 (show n3 < 5 from by omega) ?_
    refine th_gen (P := fun J => th_Inv K sl Z J ∧ J = th_u I 15 r n3 t) ⟨th_put hI (by decide) (show 0 ≤ t.toInt ∧ t.toInt ≤ 4 from by omega), rfl⟩ (fun I4 hI4 => ?_)
    obtain ⟨hI4, u4⟩ := hI4
    have e5 : x1 = I4 14 r 1 := by rw [u4, th_u_tag (by decide)]; exact e1
    have g5 : x1.toInt = (I4 14 r 1).toInt := by rw [← e5]
    have e4 : t = I4 15 r n3 := by rw [u4, th_u_eq]
    have g4 : t.toInt = (I4 15 r n3).toInt := by rw [← e4]
    refine th_aload_n C dc_R_append_18 rfl rfl ?_
    refine th_dup C dc_R_append_19 ?_
    refine tq_getIe C dc_R_append_20 cl_14 fd_R_15 rfl (show r < 11 from by omega) e5 ?_
    refine th_iconst (v := 1) C dc_R_append_23 th_c_1 ?_
    refine tq_iadd C dc_R_append_24 rfl th_l_1 (fun x6 e6 a6 => ?_)
    refine tq_putI C dc_R_append_25 cl_14 fd_R_15 rfl (show r < 11 from by omega) rfl rfl ?_
    refine th_gen (P := fun J => th_Inv K sl Z J ∧ J = th_u I4 14 r 1 x6) ⟨th_put hI4 (by decide) (show 0 ≤ x6.toInt ∧ x6.toInt ≤ 5 from by omega), rfl⟩ (fun I7 hI7 => ?_)
    obtain ⟨hI7, u7⟩ := hI7
    have e8 : t = I7 15 r n3 := by rw [u7, th_u_tag (by decide)]; exact e4
    have g8 : t.toInt = (I7 15 r n3).toInt := by rw [← e8]
    have e7 : x6 = I7 14 r 1 := by rw [u7, th_u_eq]
    have g7 : x6.toInt = (I7 14 r 1).toInt := by rw [← e7]
    exact th_vret C hQ dc_R_append_28 (by decide) (by decide) ⟨_, rfl, rfl, hI7, trivial⟩

set_option maxRecDepth 100000 in
set_option maxHeartbeats 4000000 in
theorem c_R_takeOut (l : Launch) (hl : l.stackTraces = false) {K sl : Int} {Z : th_I} (I : th_I) (r : Nat) (t : Int32) (hI : th_Inv K sl Z I) (hr : r < 11) : th_F l yn_R_takeOut cb_R_takeOut 4 none { frames := 0, cells := 0, slots := 0, locals := 0 } [.inr (some (14, r)), .inl t] (th_m I) (th_rv (fun J => th_Inv K sl Z J ∧ (True))) := by
  refine th_of hl (by decide +kernel) (Nat.le_of_ble_eq_true rfl) (fun z C hQ hN => ?_)
  show th_G l z 4 0 [(0, .inr (some (14, r))), (1, .inl t)] [] (th_m I) 0 0
  have hb := hI.2.2.1
  have hs0 : 0 ≤ (I 14 r 1).toInt ∧ (I 14 r 1).toInt ≤ 5 := hI.1 14 r 1
  refine th_iconst (v := 0) C dc_R_takeOut_0 th_c_0 ?_
  refine th_istore_n (lv' := [(0, .inr (some (14, r))), (1, .inl t), (2, .inl ((0 : Int32)))]) C dc_R_takeOut_1 rfl (by decide) rfl ?_
  refine th_iconst (v := 0) C dc_R_takeOut_2 th_c_0 ?_
  refine th_istore_n (lv' := [(0, .inr (some (14, r))), (1, .inl t), (2, .inl ((0 : Int32))), (3, .inl ((0 : Int32)))]) C dc_R_takeOut_3 rfl (by decide) rfl ?_
  have L4 : ∀ (N : Nat) (a : Int32) (k : Int32) (I1 : th_I), (th_Inv K sl Z I1) → (0 ≤ a.toInt ∧ a.toInt ≤ k.toInt ∧ k.toInt ≤ (I1 14 r 1).toInt) → (5 - k.toInt).toNat < N → th_G l z 4 4 [(0, .inr (some (14, r))), (1, .inl t), (2, .inl a), (3, .inl k)] [] (th_m I1) 0 0 := by
    intro N
    induction N with
    | zero => intro a k I1 hI1 h1 hm; exact absurd hm (Nat.not_lt_zero _)
    | succ N ih =>
      intro a k I1 hI1 h1 hm
      refine th_iload_n C dc_R_takeOut_4 rfl rfl ?_
      refine th_aload_n C dc_R_takeOut_5 rfl rfl ?_
      refine tq_getI C dc_R_takeOut_6 cl_14 fd_R_15 rfl (show r < 11 from by omega) (fun x2 e2 => ?_)
      have g2 : x2.toInt = (I1 14 r 1).toInt := by rw [e2]
      have r2 : 0 ≤ x2.toInt ∧ x2.toInt ≤ 5 := by rw [e2]; exact hI1.1 14 r 1
      refine tq_icmp_ge (tgt := 43) C dc_R_takeOut_9 (by decide) rfl rfl (fun c3 => ?_) (fun c3 => ?_)
      · refine th_aload_n C dc_R_takeOut_43 rfl rfl ?_
        refine th_iload_n C dc_R_takeOut_44 rfl rfl ?_
        refine tq_putI C dc_R_takeOut_45 cl_14 fd_R_15 rfl (show r < 11 from by omega) rfl rfl ?_
        refine th_gen (P := fun J => th_Inv K sl Z J ∧ J = th_u I1 14 r 1 a) ⟨th_put hI1 (by decide) (show 0 ≤ a.toInt ∧ a.toInt ≤ 5 from by omega), rfl⟩ (fun I4 hI4 => ?_)
        obtain ⟨hI4, u4⟩ := hI4
        have e4 : a = I4 14 r 1 := by rw [u4, th_u_eq]
        have g4 : a.toInt = (I4 14 r 1).toInt := by rw [← e4]
        exact th_vret C hQ dc_R_takeOut_48 (by decide) (by decide) ⟨_, rfl, rfl, hI4, trivial⟩
      · refine th_aload_n C dc_R_takeOut_12 rfl rfl ?_
        refine tq_getR C dc_R_takeOut_13 cl_14 fd_R_9 rfl (show r < 11 from by omega) rfl ?_
        refine th_iload_n C dc_R_takeOut_16 rfl rfl ?_
        obtain ⟨n6, m6⟩ := th_nat (a := k.toInt) (by omega)
        refine tq_ialdN C dc_R_takeOut_17 rfl (fun _ => rfl) (show r < 11 from by omega) rfl m6 (show n6 < 5 from by omega) (fun x5 e5 => ?_)
        have g5 : x5.toInt = (I1 15 r n6).toInt := by rw [e5]
        have r5 : 0 ≤ x5.toInt ∧ x5.toInt ≤ 4 := by rw [e5]; exact hI1.1 15 r n6
        refine th_iload_n C dc_R_takeOut_18 rfl rfl ?_
        refine tq_icmp_eq (tgt := 37) C dc_R_takeOut_19 (by decide) rfl rfl (fun c7 => ?_) (fun c7 => ?_)
        · refine tq_iinc (lv' := fun rr => [(0, .inr (some (14, r))), (1, .inl t), (2, .inl a), (3, .inl rr)]) C dc_R_takeOut_37 rfl (by decide) th_c_1 rfl th_l_1 (fun rr => rfl) (fun x8 e8 a8 => ?_)
          refine th_goto (tgt := 4) C dc_R_takeOut_40 (by decide) ?_
          exact ih a x8 I1 hI1 (by omega) (by omega)
        · refine th_aload_n C dc_R_takeOut_22 rfl rfl ?_
          refine tq_getR C dc_R_takeOut_23 cl_14 fd_R_9 rfl (show r < 11 from by omega) rfl ?_
          refine th_iload_n C dc_R_takeOut_26 rfl rfl ?_
          refine th_aload_n C dc_R_takeOut_27 rfl rfl ?_
          refine tq_getR C dc_R_takeOut_28 cl_14 fd_R_9 rfl (show r < 11 from by omega) rfl ?_
          refine th_iload_n C dc_R_takeOut_31 rfl rfl ?_
          refine tq_ialdE C dc_R_takeOut_32 rfl (fun _ => rfl) (show r < 11 from by omega) rfl m6 (show n6 < 5 from by omega) e5 ?_
          obtain ⟨n10, m10⟩ := th_nat (a := a.toInt) (by omega)
          refine tq_iastN C dc_R_takeOut_33 rfl (fun _ => rfl) (show r < 11 from by omega) rfl m10 (show n10 < 5 from by omega) ?_
          refine th_gen (P := fun J => th_Inv K sl Z J ∧ J = th_u I1 15 r n10 x5) ⟨th_put hI1 (by decide) (show 0 ≤ x5.toInt ∧ x5.toInt ≤ 4 from by omega), rfl⟩ (fun I11 hI11 => ?_)
          obtain ⟨hI11, u11⟩ := hI11
          have e12 : x2 = I11 14 r 1 := by rw [u11, th_u_tag (by decide)]; exact e2
          have g12 : x2.toInt = (I11 14 r 1).toInt := by rw [← e12]
          have e11 : x5 = I11 15 r n10 := by rw [u11, th_u_eq]
          have g11 : x5.toInt = (I11 15 r n10).toInt := by rw [← e11]
          refine tq_iinc (lv' := fun rr => [(0, .inr (some (14, r))), (1, .inl t), (2, .inl rr), (3, .inl k)]) C dc_R_takeOut_34 rfl (by decide) th_c_1 rfl th_l_1 (fun rr => rfl) (fun x13 e13 a13 => ?_)
          refine tq_iinc (lv' := fun rr => [(0, .inr (some (14, r))), (1, .inl t), (2, .inl x13), (3, .inl rr)]) C dc_R_takeOut_37 rfl (by decide) th_c_1 rfl th_l_1 (fun rr => rfl) (fun x14 e14 a14 => ?_)
          refine th_goto (tgt := 4) C dc_R_takeOut_40 (by decide) ?_
          exact ih x13 x14 I11 hI11 (by omega) (by omega)
  exact L4 _ ((0 : Int32)) ((0 : Int32)) I hI (by have := th_l_0; omega) (Nat.lt_succ_self _)

set_option maxRecDepth 100000 in
set_option maxHeartbeats 4000000 in
theorem c_R_takeFirst (l : Launch) (hl : l.stackTraces = false) {K sl : Int} {Z : th_I} (I : th_I) (r : Nat) (hI : th_Inv K sl Z I) (hr : r < 11) : th_F l yn_R_takeFirst cb_R_takeFirst 2 (some .int) { frames := 1, cells := 0, slots := 0, locals := 23 } [.inr (some (14, r))] (th_m I) (th_ri (fun x J => th_Inv K sl Z J ∧ (-1 ≤ x.toInt ∧ x.toInt ≤ 4))) := by
  refine th_of hl (by decide +kernel) (Nat.le_of_ble_eq_true rfl) (fun z C hQ hN => ?_)
  show th_G l z 2 0 [(0, .inr (some (14, r)))] [] (th_m I) 0 0
  have hb := hI.2.2.1
  refine th_aload_n C dc_R_takeFirst_0 rfl rfl ?_
  refine tq_getI C dc_R_takeFirst_1 cl_14 fd_R_15 rfl (show r < 11 from by omega) (fun x1 e1 => ?_)
  have g1 : x1.toInt = (I 14 r 1).toInt := by rw [e1]
  have r1 : 0 ≤ x1.toInt ∧ x1.toInt ≤ 5 := by rw [e1]; exact hI.1 14 r 1
  refine tq_if_ne (tgt := 9) C dc_R_takeFirst_4 (by decide) rfl (fun c2 => ?_) (fun c2 => ?_)
  · refine th_aload_n C dc_R_takeFirst_9 rfl rfl ?_
    refine tq_getR C dc_R_takeFirst_10 cl_14 fd_R_9 rfl (show r < 11 from by omega) rfl ?_
    refine th_iconst (v := 0) C dc_R_takeFirst_13 th_c_0 ?_
    refine tq_ialdN C dc_R_takeFirst_14 rfl (fun _ => rfl) (show r < 11 from by omega) th_l_0 (by decide) (show 0 < 5 from by omega) (fun x3 e3 => ?_)
    have g3 : x3.toInt = (I 15 r 0).toInt := by rw [e3]
    have r3 : 0 ≤ x3.toInt ∧ x3.toInt ≤ 4 := by rw [e3]; exact hI.1 15 r 0
    refine th_istore_n (lv' := [(0, .inr (some (14, r))), (1, .inl x3)]) C dc_R_takeFirst_15 rfl (by decide) rfl ?_
    refine th_aload_n C dc_R_takeFirst_16 rfl rfl ?_
    refine th_iload_n C dc_R_takeFirst_17 rfl rfl ?_
    refine tq_callVv C (c_R_takeOut l hl I r x3 hI (by omega)) ok_R_19 cl_14 (show r < 11 from by omega) rfl (Nat.le_of_ble_eq_true rfl) dc_R_takeFirst_18 rfl (fun I4 p4 => ?_)
    obtain ⟨hI4, p4⟩ := p4
    refine th_iload_n C dc_R_takeFirst_21 rfl rfl ?_
    exact th_iret C hQ dc_R_takeFirst_22 (by decide) (by decide) ⟨_, _, rfl, rfl, hI4, (by first | omega | (dsimp only; omega))⟩
  · refine th_iconst (v := -1) C dc_R_takeFirst_7 th_c_m1 ?_
    exact th_iret C hQ dc_R_takeFirst_8 (by decide) (by decide) ⟨_, _, rfl, rfl, hI, (by have := th_l_m1; first | omega | (dsimp only; omega))⟩

set_option maxRecDepth 100000 in
set_option maxHeartbeats 4000000 in
theorem c_M_isOpenTo (l : Launch) (hl : l.stackTraces = false) (I : th_I) (m : Nat) (t : Int32) (hm : m < 3) : th_F l yn_M_isOpenTo cb_M_isOpenTo 2 (some .boolean) { frames := 0, cells := 0, slots := 0, locals := 0 } [.inr (some (16, m)), .inl t] (th_m I) (th_rp I (fun x => x.toInt = 1 ∨ x.toInt = 0)) := by
  refine th_of hl (by decide +kernel) (Nat.le_of_ble_eq_true rfl) (fun z C hQ hN => ?_)
  show th_G l z 2 0 [(0, .inr (some (16, m))), (1, .inl t)] [] (th_m I) 0 0
  refine th_aload_n C dc_M_isOpenTo_0 rfl rfl ?_
  refine tq_getI C dc_M_isOpenTo_1 cl_16 fd_M_18 rfl (show m < 3 from by omega) (fun x1 e1 => ?_)
  have g1 : x1.toInt = (I 16 m 1).toInt := by rw [e1]
  refine th_iconst (v := -1) C dc_M_isOpenTo_4 th_c_m1 ?_
  refine tq_icmp_eq (tgt := 16) C dc_M_isOpenTo_5 (by decide) rfl th_l_m1 (fun c2 => ?_) (fun c2 => ?_)
  · refine th_iconst (v := 1) C dc_M_isOpenTo_16 th_c_1 ?_
    refine th_goto (tgt := 21) C dc_M_isOpenTo_17 (by decide) ?_
    exact th_zret C hQ dc_M_isOpenTo_21 (rfl) (by decide) (by decide) ⟨_, rfl, rfl, (by have := th_l_1; first | omega | (dsimp only; omega))⟩
  · refine th_aload_n C dc_M_isOpenTo_8 rfl rfl ?_
    refine tq_getIe C dc_M_isOpenTo_9 cl_16 fd_M_18 rfl (show m < 3 from by omega) e1 ?_
    refine th_iload_n C dc_M_isOpenTo_12 rfl rfl ?_
    refine tq_icmp_ne (tgt := 20) C dc_M_isOpenTo_13 (by decide) rfl rfl (fun c3 => ?_) (fun c3 => ?_)
    · refine th_iconst (v := 0) C dc_M_isOpenTo_20 th_c_0 ?_
      exact th_zret C hQ dc_M_isOpenTo_21 (rfl) (by decide) (by decide) ⟨_, rfl, rfl, (by have := th_l_0; first | omega | (dsimp only; omega))⟩
    · refine th_iconst (v := 1) C dc_M_isOpenTo_16 th_c_1 ?_
      refine th_goto (tgt := 21) C dc_M_isOpenTo_17 (by decide) ?_
      exact th_zret C hQ dc_M_isOpenTo_21 (rfl) (by decide) (by decide) ⟨_, rfl, rfl, (by have := th_l_1; first | omega | (dsimp only; omega))⟩

set_option maxRecDepth 100000 in
set_option maxHeartbeats 4000000 in
theorem c_M_give (l : Launch) (hl : l.stackTraces = false) {K sl : Int} {Z : th_I} (I : th_I) (m : Nat) (t : Int32) (v : Int32) (hI : th_Inv K sl Z I) (hm : m < 3) : th_F l yn_M_give cb_M_give 3 none { frames := 0, cells := 0, slots := 0, locals := 0 } [.inr (some (16, m)), .inl t, .inl v] (th_m I) (th_rv (fun J => th_Inv K sl Z J ∧ (True))) := by
  refine th_of hl (by decide +kernel) (Nat.le_of_ble_eq_true rfl) (fun z C hQ hN => ?_)
  show th_G l z 3 0 [(0, .inr (some (16, m))), (1, .inl t), (2, .inl v)] [] (th_m I) 0 0
  have hb := hI.2.2.1
  refine th_aload_n C dc_M_give_0 rfl rfl ?_
  refine th_iload_n C dc_M_give_1 rfl rfl ?_
  refine tq_putI C dc_M_give_2 cl_16 fd_M_18 rfl (show m < 3 from by omega) rfl rfl ?_
  refine th_gen (P := fun J => th_Inv K sl Z J ∧ J = th_u I 16 m 1 t) ⟨th_put hI (by decide) trivial, rfl⟩ (fun I1 hI1 => ?_)
  obtain ⟨hI1, u1⟩ := hI1
  have e1 : t = I1 16 m 1 := by rw [u1, th_u_eq]
  have g1 : t.toInt = (I1 16 m 1).toInt := by rw [← e1]
  refine th_aload_n C dc_M_give_5 rfl rfl ?_
  refine th_dup C dc_M_give_6 ?_
  refine tq_getI C dc_M_give_7 cl_16 fd_M_22 rfl (show m < 3 from by omega) (fun x2 e2 => ?_)
  have g2 : x2.toInt = (I1 16 m 2).toInt := by rw [e2]
  refine th_iload_n C dc_M_give_10 rfl rfl ?_
  refine tq_iadd C dc_M_give_11 rfl rfl (fun x3 e3 a3 => ?_)
  refine tq_putI C dc_M_give_12 cl_16 fd_M_22 rfl (show m < 3 from by omega) rfl rfl ?_
  refine th_gen (P := fun J => th_Inv K sl Z J ∧ J = th_u I1 16 m 2 x3) ⟨th_put hI1 (by decide) trivial, rfl⟩ (fun I4 hI4 => ?_)
  obtain ⟨hI4, u4⟩ := hI4
  have e5 : t = I4 16 m 1 := by rw [u4, th_u_slot (by decide)]; exact e1
  have g5 : t.toInt = (I4 16 m 1).toInt := by rw [← e5]
  have e4 : x3 = I4 16 m 2 := by rw [u4, th_u_eq]
  have g4 : x3.toInt = (I4 16 m 2).toInt := by rw [← e4]
  exact th_vret C hQ dc_M_give_15 (by decide) (by decide) ⟨_, rfl, rfl, hI4, trivial⟩

set_option maxRecDepth 100000 in
set_option maxHeartbeats 4000000 in
theorem c_H_requireBetween (l : Launch) (hl : l.stackTraces = false) (I : th_I) (v : Int32) (a : Int32) (b : Int32) : th_F l yn_H_requireBetween cb_H_requireBetween 3 none { frames := 6, cells := 1, slots := 6, locals := 89 } [.inl v, .inl a, .inl b] (th_m I) (th_rt I (a.toInt ≤ v.toInt ∧ v.toInt ≤ b.toInt) (fun E => E = th_IAE ∧ ¬ (a.toInt ≤ v.toInt ∧ v.toInt ≤ b.toInt))) := by
  refine th_of hl (by decide +kernel) (Nat.le_of_ble_eq_true rfl) (fun z C hQ hN => ?_)
  show th_G l z 3 0 [(0, .inl v), (1, .inl a), (2, .inl b)] [] (th_m I) 0 0
  refine th_iload_n C dc_H_requireBetween_0 rfl rfl ?_
  refine th_iload_n C dc_H_requireBetween_1 rfl rfl ?_
  refine tq_icmp_lt (tgt := 10) C dc_H_requireBetween_2 (by decide) rfl rfl (fun c1 => ?_) (fun c1 => ?_)
  · exact th_throw C hQ okT_H_143 dc_H_requireBetween_10 dc_H_requireBetween_13 dc_H_requireBetween_14 dc_H_requireBetween_17 (fun _ h => nomatch h) (by decide) (by decide) (by decide) (by decide) (by decide) (by decide) rfl (Or.inr ⟨_, rfl, rfl, rfl, by first | omega | (dsimp only; omega)⟩)
  · refine th_iload_n C dc_H_requireBetween_5 rfl rfl ?_
    refine th_iload_n C dc_H_requireBetween_6 rfl rfl ?_
    refine tq_icmp_le (tgt := 18) C dc_H_requireBetween_7 (by decide) rfl rfl (fun c2 => ?_) (fun c2 => ?_)
    · exact th_vret C hQ dc_H_requireBetween_18 (by decide) (by decide) (Or.inl ⟨rfl, rfl, (by first | omega | (dsimp only; omega))⟩)
    · exact th_throw C hQ okT_H_143 dc_H_requireBetween_10 dc_H_requireBetween_13 dc_H_requireBetween_14 dc_H_requireBetween_17 (fun _ h => nomatch h) (by decide) (by decide) (by decide) (by decide) (by decide) (by decide) rfl (Or.inr ⟨_, rfl, rfl, rfl, by first | omega | (dsimp only; omega)⟩)

set_option maxRecDepth 100000 in
set_option maxHeartbeats 4000000 in
theorem c_H_requireBelow (l : Launch) (hl : l.stackTraces = false) (I : th_I) (v : Int32) (n : Int32) (hn : 0 ≤ n.toInt) : th_F l yn_H_requireBelow cb_H_requireBelow 2 none { frames := 7, cells := 1, slots := 6, locals := 111 } [.inl v, .inl n] (th_m I) (th_rt I (0 ≤ v.toInt ∧ v.toInt < n.toInt) (fun E => E = th_IAE ∧ ¬ (0 ≤ v.toInt ∧ v.toInt < n.toInt))) := by
  refine th_of hl (by decide +kernel) (Nat.le_of_ble_eq_true rfl) (fun z C hQ hN => ?_)
  show th_G l z 2 0 [(0, .inl v), (1, .inl n)] [] (th_m I) 0 0
  have hn2 := th_lt n
  refine th_iload_n C dc_H_requireBelow_0 rfl rfl ?_
  refine th_iconst (v := 0) C dc_H_requireBelow_1 th_c_0 ?_
  refine th_iload_n C dc_H_requireBelow_2 rfl rfl ?_
  refine th_iconst (v := 1) C dc_H_requireBelow_3 th_c_1 ?_
  refine tq_isub C dc_H_requireBelow_4 rfl th_l_1 (fun x1 e1 a1 => ?_)
  refine tq_callSt C (c_H_requireBetween l hl I v ((0 : Int32)) x1) ok_H_86 rfl (Nat.le_of_ble_eq_true rfl) dc_H_requireBelow_5 rfl (fun E pE => th_outX C hQ (fun _ h => nomatch h) (by decide) (by decide) (Or.inr ⟨E, rfl, rfl, pE.1, by have := th_l_0; first | omega | (dsimp only; omega)⟩)) (fun p2 => ?_)
  try simp only [th_l_0] at p2
  exact th_vret C hQ dc_H_requireBelow_8 (by decide) (by decide) (Or.inl ⟨rfl, rfl, (by first | omega | (dsimp only; omega))⟩)

set_option maxRecDepth 100000 in
set_option maxHeartbeats 4000000 in
theorem c_H_requireOperand (l : Launch) (hl : l.stackTraces = false) (I : th_I) (v : Int32) (n : Int32) : th_F l yn_H_requireOperand cb_H_requireOperand 2 none { frames := 8, cells := 1, slots := 6, locals := 132 } [.inl v, .inl n] (th_m I) (th_rt I (0 < n.toInt → 0 ≤ v.toInt ∧ v.toInt < n.toInt) (fun E => E = th_IAE ∧ 0 < n.toInt ∧ ¬ (0 ≤ v.toInt ∧ v.toInt < n.toInt))) := by
  refine th_of hl (by decide +kernel) (Nat.le_of_ble_eq_true rfl) (fun z C hQ hN => ?_)
  show th_G l z 2 0 [(0, .inl v), (1, .inl n)] [] (th_m I) 0 0
  refine th_iload_n C dc_H_requireOperand_0 rfl rfl ?_
  refine tq_if_le (tgt := 9) C dc_H_requireOperand_1 (by decide) rfl (fun c1 => ?_) (fun c1 => ?_)
  · exact th_vret C hQ dc_H_requireOperand_9 (by decide) (by decide) (Or.inl ⟨rfl, rfl, (by first | omega | (dsimp only; omega))⟩)
  · refine th_iload_n C dc_H_requireOperand_4 rfl rfl ?_
    refine th_iload_n C dc_H_requireOperand_5 rfl rfl ?_
    refine tq_callSt C (c_H_requireBelow l hl I v n (by omega)) ok_H_46 rfl (Nat.le_of_ble_eq_true rfl) dc_H_requireOperand_6 rfl (fun E pE => th_outX C hQ (fun _ h => nomatch h) (by decide) (by decide) (Or.inr ⟨E, rfl, rfl, pE.1, by first | omega | (dsimp only; omega)⟩)) (fun p2 => ?_)
    exact th_vret C hQ dc_H_requireOperand_9 (by decide) (by decide) (Or.inl ⟨rfl, rfl, (by first | omega | (dsimp only; omega))⟩)

set_option maxRecDepth 100000 in
set_option maxHeartbeats 4000000 in
theorem c_H_requireNotAlive (l : Launch) (hl : l.stackTraces = false) (I : th_I) (i : Nat) (hi : i < 5) : th_F l yn_H_requireNotAlive cb_H_requireNotAlive 1 none { frames := 6, cells := 1, slots := 6, locals := 89 } [.inr (some (6, i))] (th_m I) (th_rt I ((I 6 i 5).toInt = 0 ∨ (I 6 i 5).toInt = 5) (fun E => E = th_ISE ∧ (I 6 i 5).toInt ≠ 0 ∧ (I 6 i 5).toInt ≠ 5)) := by
  refine th_of hl (by decide +kernel) (Nat.le_of_ble_eq_true rfl) (fun z C hQ hN => ?_)
  show th_G l z 1 0 [(0, .inr (some (6, i)))] [] (th_m I) 0 0
  refine th_aload_n C dc_H_requireNotAlive_0 rfl rfl ?_
  refine tq_callVp C (c_S_isAlive l hl I i (by omega)) ok_H_79 cl_6 (show i < 5 from by omega) rfl (Nat.le_of_ble_eq_true rfl) dc_H_requireNotAlive_1 rfl (fun x1 p1 => ?_)
  refine tq_if_eq (tgt := 15) C dc_H_requireNotAlive_4 (by decide) rfl (fun c2 => ?_) (fun c2 => ?_)
  · exact th_vret C hQ dc_H_requireNotAlive_15 (by decide) (by decide) (Or.inl ⟨rfl, rfl, (by first | omega | (dsimp only; omega))⟩)
  · exact th_throw C hQ okT_H_173 dc_H_requireNotAlive_7 dc_H_requireNotAlive_10 dc_H_requireNotAlive_11 dc_H_requireNotAlive_14 (fun _ h => nomatch h) (by decide) (by decide) (by decide) (by decide) (by decide) (by decide) rfl (Or.inr ⟨_, rfl, rfl, rfl, by first | omega | (dsimp only; omega)⟩)
end
section
set_option maxRecDepth 100000 in
set_option maxHeartbeats 4000000 in
theorem c_H_aliveCount (l : Launch) (hl : l.stackTraces = false) {K sl : Int} {Z : th_I} (I : th_I) (hI : th_Inv K sl Z I) : th_F l yn_H_aliveCount cb_H_aliveCount 3 (some .int) { frames := 1, cells := 0, slots := 0, locals := 20 } [.inr (some (0, 0))] (th_m I) (th_rp I (fun x => True)) := by
  refine th_of hl (by decide +kernel) (Nat.le_of_ble_eq_true rfl) (fun z C hQ hN => ?_)
  show th_G l z 3 0 [(0, .inr (some (0, 0)))] [] (th_m I) 0 0
  have hb := hI.2.2.1
  refine th_iconst (v := 0) C dc_H_aliveCount_0 th_c_0 ?_
  refine th_istore_n (lv' := [(0, .inr (some (0, 0))), (1, .inl ((0 : Int32)))]) C dc_H_aliveCount_1 rfl (by decide) rfl ?_
  refine th_iconst (v := 0) C dc_H_aliveCount_2 th_c_0 ?_
  refine th_istore_n (lv' := [(0, .inr (some (0, 0))), (1, .inl ((0 : Int32))), (2, .inl ((0 : Int32)))]) C dc_H_aliveCount_3 rfl (by decide) rfl ?_
  have L4 : ∀ (N : Nat) (a : Int32) (k : Int32), (0 ≤ k.toInt ∧ k.toInt ≤ 5) → (5 - k.toInt).toNat < N → th_G l z 3 4 [(0, .inr (some (0, 0))), (1, .inl a), (2, .inl k)] [] (th_m I) 0 0 := by
    intro N
    induction N with
    | zero => intro a k h1 hm; exact absurd hm (Nat.not_lt_zero _)
    | succ N ih =>
      intro a k h1 hm
      refine th_iload_n C dc_H_aliveCount_4 rfl rfl ?_
      refine th_iconst (v := 5) C dc_H_aliveCount_5 th_c_5 ?_
      refine tq_icmp_ge (tgt := 30) C dc_H_aliveCount_6 (by decide) rfl th_l_5 (fun c2 => ?_) (fun c2 => ?_)
      · refine th_iload_n C dc_H_aliveCount_30 rfl rfl ?_
        exact th_iret C hQ dc_H_aliveCount_31 (by decide) (by decide) ⟨_, rfl, rfl, trivial⟩
      · refine th_aload_n C dc_H_aliveCount_9 rfl rfl ?_
        refine tq_getR C dc_H_aliveCount_10 cl_0 fd_H_11 rfl (show 0 < 1 from by omega) rfl ?_
        refine th_iload_n C dc_H_aliveCount_13 rfl rfl ?_
        obtain ⟨n3, m3⟩ := th_nat (a := k.toInt) (by omega)
        refine tq_aaldN C dc_H_aliveCount_14 rfl (fun _ => rfl) (show 0 < 1 from by omega) rfl m3 (show n3 < 5 from by omega) (fun _ => rfl) ?_
        refine tq_callVp C (c_S_isAlive l hl I n3 (by omega)) ok_H_79 cl_6 (show n3 < 5 from by omega) rfl (Nat.le_of_ble_eq_true rfl) dc_H_aliveCount_15 rfl (fun x4 p4 => ?_)
        refine tq_if_eq (tgt := 24) C dc_H_aliveCount_18 (by decide) rfl (fun c5 => ?_) (fun c5 => ?_)
        · refine tq_iinc (lv' := fun rr => [(0, .inr (some (0, 0))), (1, .inl a), (2, .inl rr)]) C dc_H_aliveCount_24 rfl (by decide) th_c_1 rfl th_l_1 (fun rr => rfl) (fun x6 e6 a6 => ?_)
          refine th_goto (tgt := 4) C dc_H_aliveCount_27 (by decide) ?_
          exact ih a x6 (by omega) (by omega)
        · refine tq_iinc (lv' := fun rr => [(0, .inr (some (0, 0))), (1, .inl rr), (2, .inl k)]) C dc_H_aliveCount_21 rfl (by decide) th_c_1 rfl th_l_1 (fun rr => rfl) (fun x7 e7 a7 => ?_)
          refine tq_iinc (lv' := fun rr => [(0, .inr (some (0, 0))), (1, .inl x7), (2, .inl rr)]) C dc_H_aliveCount_24 rfl (by decide) th_c_1 rfl th_l_1 (fun rr => rfl) (fun x8 e8 a8 => ?_)
          refine th_goto (tgt := 4) C dc_H_aliveCount_27 (by decide) ?_
          exact ih x7 x8 (by omega) (by omega)
  exact L4 _ ((0 : Int32)) ((0 : Int32)) (by have := th_l_0; omega) (Nat.lt_succ_self _)

set_option maxRecDepth 100000 in
set_option maxHeartbeats 4000000 in
theorem c_H_readyCount (l : Launch) (hl : l.stackTraces = false) {K sl : Int} {Z : th_I} (I : th_I) (hI : th_Inv K sl Z I) : th_F l yn_H_readyCount cb_H_readyCount 3 (some .int) { frames := 0, cells := 0, slots := 0, locals := 0 } [.inr (some (0, 0))] (th_m I) (th_rp I (fun x => True)) := by
  refine th_of hl (by decide +kernel) (Nat.le_of_ble_eq_true rfl) (fun z C hQ hN => ?_)
  show th_G l z 3 0 [(0, .inr (some (0, 0)))] [] (th_m I) 0 0
  have hb := hI.2.2.1
  refine th_iconst (v := 0) C dc_H_readyCount_0 th_c_0 ?_
  refine th_istore_n (lv' := [(0, .inr (some (0, 0))), (1, .inl ((0 : Int32)))]) C dc_H_readyCount_1 rfl (by decide) rfl ?_
  refine th_iconst (v := 0) C dc_H_readyCount_2 th_c_0 ?_
  refine th_istore_n (lv' := [(0, .inr (some (0, 0))), (1, .inl ((0 : Int32))), (2, .inl ((0 : Int32)))]) C dc_H_readyCount_3 rfl (by decide) rfl ?_
  have L4 : ∀ (N : Nat) (a : Int32) (k : Int32), (0 ≤ k.toInt ∧ k.toInt ≤ 5) → (5 - k.toInt).toNat < N → th_G l z 3 4 [(0, .inr (some (0, 0))), (1, .inl a), (2, .inl k)] [] (th_m I) 0 0 := by
    intro N
    induction N with
    | zero => intro a k h1 hm; exact absurd hm (Nat.not_lt_zero _)
    | succ N ih =>
      intro a k h1 hm
      refine th_iload_n C dc_H_readyCount_4 rfl rfl ?_
      refine th_iconst (v := 5) C dc_H_readyCount_5 th_c_5 ?_
      refine tq_icmp_ge (tgt := 31) C dc_H_readyCount_6 (by decide) rfl th_l_5 (fun c2 => ?_) (fun c2 => ?_)
      · refine th_iload_n C dc_H_readyCount_31 rfl rfl ?_
        exact th_iret C hQ dc_H_readyCount_32 (by decide) (by decide) ⟨_, rfl, rfl, trivial⟩
      · refine th_aload_n C dc_H_readyCount_9 rfl rfl ?_
        refine tq_getR C dc_H_readyCount_10 cl_0 fd_H_11 rfl (show 0 < 1 from by omega) rfl ?_
        refine th_iload_n C dc_H_readyCount_13 rfl rfl ?_
        obtain ⟨n3, m3⟩ := th_nat (a := k.toInt) (by omega)
        refine tq_aaldN C dc_H_readyCount_14 rfl (fun _ => rfl) (show 0 < 1 from by omega) rfl m3 (show n3 < 5 from by omega) (fun _ => rfl) ?_
        refine tq_getI C dc_H_readyCount_15 cl_6 fd_H_106 rfl (show n3 < 5 from by omega) (fun x4 e4 => ?_)
        have g4 : x4.toInt = (I 6 n3 5).toInt := by rw [e4]
        refine th_iconst (v := 1) C dc_H_readyCount_18 th_c_1 ?_
        refine tq_icmp_ne (tgt := 25) C dc_H_readyCount_19 (by decide) rfl th_l_1 (fun c5 => ?_) (fun c5 => ?_)
        · refine tq_iinc (lv' := fun rr => [(0, .inr (some (0, 0))), (1, .inl a), (2, .inl rr)]) C dc_H_readyCount_25 rfl (by decide) th_c_1 rfl th_l_1 (fun rr => rfl) (fun x6 e6 a6 => ?_)
          refine th_goto (tgt := 4) C dc_H_readyCount_28 (by decide) ?_
          exact ih a x6 (by omega) (by omega)
        · refine tq_iinc (lv' := fun rr => [(0, .inr (some (0, 0))), (1, .inl rr), (2, .inl k)]) C dc_H_readyCount_22 rfl (by decide) th_c_1 rfl th_l_1 (fun rr => rfl) (fun x7 e7 a7 => ?_)
          refine tq_iinc (lv' := fun rr => [(0, .inr (some (0, 0))), (1, .inl x7), (2, .inl rr)]) C dc_H_readyCount_25 rfl (by decide) th_c_1 rfl th_l_1 (fun rr => rfl) (fun x8 e8 a8 => ?_)
          refine th_goto (tgt := 4) C dc_H_readyCount_28 (by decide) ?_
          exact ih x7 x8 (by omega) (by omega)
  exact L4 _ ((0 : Int32)) ((0 : Int32)) (by have := th_l_0; omega) (Nat.lt_succ_self _)

set_option maxRecDepth 100000 in
set_option maxHeartbeats 4000000 in
theorem c_H_nextReady (l : Launch) (hl : l.stackTraces = false) {K sl : Int} {Z : th_I} (I : th_I) (hI : th_Inv K sl Z I) : th_F l yn_H_nextReady cb_H_nextReady 3 (some .int) { frames := 0, cells := 0, slots := 0, locals := 0 } [.inr (some (0, 0))] (th_m I) (th_rp I (fun x => -1 ≤ x.toInt ∧ x.toInt ≤ 4)) := by
  refine th_of hl (by decide +kernel) (Nat.le_of_ble_eq_true rfl) (fun z C hQ hN => ?_)
  show th_G l z 3 0 [(0, .inr (some (0, 0)))] [] (th_m I) 0 0
  have hb := hI.2.2.1
  refine th_iconst (v := 1) C dc_H_nextReady_0 th_c_1 ?_
  refine th_istore_n (lv' := [(0, .inr (some (0, 0))), (1, .inl ((1 : Int32)))]) C dc_H_nextReady_1 rfl (by decide) rfl ?_
  have L2 : ∀ (N : Nat) (k : Int32), (1 ≤ k.toInt ∧ k.toInt ≤ 6) → (6 - k.toInt).toNat < N → th_G l z 3 2 [(0, .inr (some (0, 0))), (1, .inl k)] [] (th_m I) 0 0 := by
    intro N
    induction N with
    | zero => intro k h1 hm; exact absurd hm (Nat.not_lt_zero _)
    | succ N ih =>
      intro k h1 hm
      refine th_iload_n C dc_H_nextReady_2 rfl rfl ?_
      refine th_iconst (v := 5) C dc_H_nextReady_3 th_c_5 ?_
      refine tq_icmp_gt (tgt := 37) C dc_H_nextReady_4 (by decide) rfl th_l_5 (fun c2 => ?_) (fun c2 => ?_)
      · refine th_iconst (v := -1) C dc_H_nextReady_37 th_c_m1 ?_
        exact th_iret C hQ dc_H_nextReady_38 (by decide) (by decide) ⟨_, rfl, rfl, (by have := th_l_m1; first | omega | (dsimp only; omega))⟩
      · refine th_aload_n C dc_H_nextReady_7 rfl rfl ?_
        refine tq_getI C dc_H_nextReady_8 cl_0 fd_H_43 rfl (show 0 < 1 from by omega) (fun x3 e3 => ?_)
        have g3 : x3.toInt = (I 0 0 7).toInt := by rw [e3]
        have r3 : -1 ≤ x3.toInt ∧ x3.toInt ≤ 4 := by rw [e3]; exact hI.1 0 0 7
        refine th_iload_n C dc_H_nextReady_11 rfl rfl ?_
        refine tq_iadd C dc_H_nextReady_12 rfl rfl (fun x4 e4 a4 => ?_)
        refine th_iconst (v := 5) C dc_H_nextReady_13 th_c_5 ?_
        refine th_irem C dc_H_nextReady_14 (by decide) ?_
        obtain ⟨x5, e5⟩ : ∃ r : Int32, r = x4 - x4 / (5 : Int32) * (5 : Int32) := ⟨_, rfl⟩
        rw [← e5]
        have a5 := th_rem5 (x := x4) (by omega) (by omega)
        rw [← e5] at a5
        refine th_istore_n (lv' := [(0, .inr (some (0, 0))), (1, .inl k), (2, .inl x5)]) C dc_H_nextReady_15 rfl (by decide) rfl ?_
        refine th_aload_n C dc_H_nextReady_16 rfl rfl ?_
        refine tq_getR C dc_H_nextReady_17 cl_0 fd_H_11 rfl (show 0 < 1 from by omega) rfl ?_
        refine th_iload_n C dc_H_nextReady_20 rfl rfl ?_
        obtain ⟨n6, m6⟩ := th_nat (a := x5.toInt) (by omega)
        refine tq_aaldN C dc_H_nextReady_21 rfl (fun _ => rfl) (show 0 < 1 from by omega) rfl m6 (show n6 < 5 from by omega) (fun _ => rfl) ?_
        refine tq_getI C dc_H_nextReady_22 cl_6 fd_H_106 rfl (show n6 < 5 from by omega) (fun x7 e7 => ?_)
        have g7 : x7.toInt = (I 6 n6 5).toInt := by rw [e7]
        refine th_iconst (v := 1) C dc_H_nextReady_25 th_c_1 ?_
        refine tq_icmp_ne (tgt := 31) C dc_H_nextReady_26 (by decide) rfl th_l_1 (fun c8 => ?_) (fun c8 => ?_)
        · refine tq_iinc (lv' := fun rr => [(0, .inr (some (0, 0))), (1, .inl rr), (2, .inl x5)]) C dc_H_nextReady_31 rfl (by decide) th_c_1 rfl th_l_1 (fun rr => rfl) (fun x9 e9 a9 => ?_)
          refine th_goto (tgt := 2) C dc_H_nextReady_34 (by decide) ?_
          refine th_sub C (lv' := [(0, .inr (some (0, 0))), (1, .inl x9)]) (fun q hq => by simp at hq ⊢; rcases hq with rfl | rfl <;> simp) ?_
          exact ih x9 (by omega) (by omega)
        · refine th_iload_n C dc_H_nextReady_29 rfl rfl ?_
          exact th_iret C hQ dc_H_nextReady_30 (by decide) (by decide) ⟨_, rfl, rfl, (by first | omega | (dsimp only; omega))⟩
  exact L2 _ ((1 : Int32)) (by have := th_l_1; omega) (Nat.lt_succ_self _)

set_option maxRecDepth 100000 in
set_option maxHeartbeats 4000000 in
theorem c_H_countInstruction (l : Launch) (hl : l.stackTraces = false) {K sl : Int} {Z : th_I} (I : th_I) (i : Nat) (hI : th_Inv K sl Z I) (hi : i < 5) (hp : (I 6 i 6).toInt < 24) : th_F l yn_H_countInstruction cb_H_countInstruction 2 none { frames := 0, cells := 0, slots := 0, locals := 0 } [.inr (some (0, 0)), .inr (some (6, i))] (th_m I) (th_rv (fun J => th_Inv K sl Z J ∧ (True))) := by
  refine th_of hl (by decide +kernel) (Nat.le_of_ble_eq_true rfl) (fun z C hQ hN => ?_)
  show th_G l z 2 0 [(0, .inr (some (0, 0))), (1, .inr (some (6, i)))] [] (th_m I) 0 0
  have hb := hI.2.2.1
  refine th_aload_n C dc_H_countInstruction_0 rfl rfl ?_
  refine th_dup C dc_H_countInstruction_1 ?_
  refine tq_getI C dc_H_countInstruction_2 cl_6 fd_H_109 rfl (show i < 5 from by omega) (fun x1 e1 => ?_)
  have g1 : x1.toInt = (I 6 i 6).toInt := by rw [e1]
  have r1 : 0 ≤ x1.toInt ∧ x1.toInt ≤ 24 := by rw [e1]; exact hI.1 6 i 6
  refine th_iconst (v := 1) C dc_H_countInstruction_5 th_c_1 ?_
  refine tq_iadd C dc_H_countInstruction_6 rfl th_l_1 (fun x2 e2 a2 => ?_)
  refine tq_putI C dc_H_countInstruction_7 cl_6 fd_H_109 rfl (show i < 5 from by omega) rfl rfl ?_
  refine th_gen (P := fun J => th_Inv K sl Z J ∧ J = th_u I 6 i 6 x2) ⟨th_put hI (by decide) (show 0 ≤ x2.toInt ∧ x2.toInt ≤ 24 from by omega), rfl⟩ (fun I3 hI3 => ?_)
  obtain ⟨hI3, u3⟩ := hI3
  have e3 : x2 = I3 6 i 6 := by rw [u3, th_u_eq]
  have g3 : x2.toInt = (I3 6 i 6).toInt := by rw [← e3]
  refine th_aload_n C dc_H_countInstruction_10 rfl rfl ?_
  refine th_dup C dc_H_countInstruction_11 ?_
  refine tq_getI C dc_H_countInstruction_12 cl_6 fd_H_132 rfl (show i < 5 from by omega) (fun x4 e4 => ?_)
  have g4 : x4.toInt = (I3 6 i 9).toInt := by rw [e4]
  refine th_iconst (v := 1) C dc_H_countInstruction_15 th_c_1 ?_
  refine tq_iadd C dc_H_countInstruction_16 rfl th_l_1 (fun x5 e5 a5 => ?_)
  refine tq_putI C dc_H_countInstruction_17 cl_6 fd_H_132 rfl (show i < 5 from by omega) rfl rfl ?_
  refine th_gen (P := fun J => th_Inv K sl Z J ∧ J = th_u I3 6 i 9 x5) ⟨th_put hI3 (by decide) trivial, rfl⟩ (fun I6 hI6 => ?_)
  obtain ⟨hI6, u6⟩ := hI6
  have e7 : x2 = I6 6 i 6 := by rw [u6, th_u_slot (by decide)]; exact e3
  have g7 : x2.toInt = (I6 6 i 6).toInt := by rw [← e7]
  have e6 : x5 = I6 6 i 9 := by rw [u6, th_u_eq]
  have g6 : x5.toInt = (I6 6 i 9).toInt := by rw [← e6]
  refine th_aload_n C dc_H_countInstruction_20 rfl rfl ?_
  refine th_dup C dc_H_countInstruction_21 ?_
  refine tq_getI C dc_H_countInstruction_22 cl_0 fd_H_89 rfl (show 0 < 1 from by omega) (fun x8 e8 => ?_)
  have g8 : x8.toInt = (I6 0 0 9).toInt := by rw [e8]
  refine th_iconst (v := 1) C dc_H_countInstruction_25 th_c_1 ?_
  refine tq_iadd C dc_H_countInstruction_26 rfl th_l_1 (fun x9 e9 a9 => ?_)
  refine tq_putI C dc_H_countInstruction_27 cl_0 fd_H_89 rfl (show 0 < 1 from by omega) rfl rfl ?_
  refine th_gen (P := fun J => th_Inv K sl Z J ∧ J = th_u I6 0 0 9 x9) ⟨th_put hI6 (by decide) trivial, rfl⟩ (fun I10 hI10 => ?_)
  obtain ⟨hI10, u10⟩ := hI10
  have e11 : x2 = I10 6 i 6 := by rw [u10, th_u_tag (by decide)]; exact e7
  have g11 : x2.toInt = (I10 6 i 6).toInt := by rw [← e11]
  have e12 : x5 = I10 6 i 9 := by rw [u10, th_u_tag (by decide)]; exact e6
  have g12 : x5.toInt = (I10 6 i 9).toInt := by rw [← e12]
  have e10 : x9 = I10 0 0 9 := by rw [u10, th_u_eq]
  have g10 : x9.toInt = (I10 0 0 9).toInt := by rw [← e10]
  exact th_vret C hQ dc_H_countInstruction_30 (by decide) (by decide) ⟨_, rfl, rfl, hI10, trivial⟩

set_option maxRecDepth 100000 in
set_option maxHeartbeats 4000000 in
theorem c_H_read (l : Launch) (hl : l.stackTraces = false) {K sl : Int} {Z : th_I} (I : th_I) (i : Nat) (s : Int32) (hI : th_Inv K sl Z I) (hi : i < 5) (hs : 0 ≤ s.toInt ∧ s.toInt ≤ 3) : th_F l yn_H_read cb_H_read 4 (some .int) { frames := 1, cells := 0, slots := 0, locals := 22 } [.inr (some (0, 0)), .inr (some (6, i)), .inl s] (th_m I) (th_rp I (fun x => True)) := by
  refine th_of hl (by decide +kernel) (Nat.le_of_ble_eq_true rfl) (fun z C hQ hN => ?_)
  show th_G l z 4 0 [(0, .inr (some (0, 0))), (1, .inr (some (6, i))), (2, .inl s)] [] (th_m I) 0 0
  have hb := hI.2.2.1
  refine th_aload_n C dc_H_read_0 rfl rfl ?_
  refine tq_getR C dc_H_read_1 cl_6 fd_H_115 rfl (show i < 5 from by omega) rfl ?_
  refine th_iload_n C dc_H_read_4 rfl rfl ?_
  refine tq_callVp C (c_Q_latest l hl I (2 * i) s hI (by omega)) ok_H_251 cl_11 (show 2 * i < 10 from by omega) rfl (Nat.le_of_ble_eq_true rfl) dc_H_read_5 rfl (fun x1 p1 => ?_)
  refine th_istore_n (lv' := [(0, .inr (some (0, 0))), (1, .inr (some (6, i))), (2, .inl s), (3, .inl x1)]) C dc_H_read_8 rfl (by decide) rfl ?_
  refine th_iload_n C dc_H_read_9 rfl rfl ?_
  refine th_iconst (v := -1) C dc_H_read_10 th_c_m1 ?_
  refine tq_icmp_ne (tgt := 23) C dc_H_read_11 (by decide) rfl th_l_m1 (fun c2 => ?_) (fun c2 => ?_)
  · refine th_aload_n C dc_H_read_23 rfl rfl ?_
    refine tq_getR C dc_H_read_24 cl_6 fd_H_115 rfl (show i < 5 from by omega) rfl ?_
    refine tq_getR C dc_H_read_27 cl_11 fd_H_255 rfl (show 2 * i < 10 from by omega) rfl ?_
    refine th_iload_n C dc_H_read_30 rfl rfl ?_
    obtain ⟨n4, m4⟩ := th_nat (a := x1.toInt) (by omega)
    refine tq_ialdN C dc_H_read_31 rfl (fun _ => rfl) (show 2 * i < 10 from by omega) rfl m4 (show n4 < th_lp (2 * i) from by omega) (fun x3 e3 => ?_)
    have g3 : x3.toInt = (I 13 (2 * i) n4).toInt := by rw [e3]
    exact th_iret C hQ dc_H_read_32 (by decide) (by decide) ⟨_, rfl, rfl, trivial⟩
  · refine th_aload_n C dc_H_read_14 rfl rfl ?_
    refine tq_getR C dc_H_read_15 cl_0 fd_H_32 rfl (show 0 < 1 from by omega) rfl ?_
    refine th_iload_n C dc_H_read_18 rfl rfl ?_
    obtain ⟨n6, m6⟩ := th_nat (a := s.toInt) (by omega)
    refine tq_ialdN C dc_H_read_19 rfl (fun _ => rfl) (show 0 < 1 from by omega) rfl m6 (show n6 < 4 from by omega) (fun x5 e5 => ?_)
    have g5 : x5.toInt = (I 4 0 n6).toInt := by rw [e5]
    refine th_goto (tgt := 32) C dc_H_read_20 (by decide) ?_
    exact th_iret C hQ dc_H_read_32 (by decide) (by decide) ⟨_, rfl, rfl, trivial⟩

set_option maxRecDepth 100000 in
set_option maxHeartbeats 4000000 in
theorem c_H_write (l : Launch) (hl : l.stackTraces = false) {K sl : Int} {Z : th_I} (I : th_I) (i : Nat) (s : Int32) (v : Int32) (hI : th_Inv K sl Z I) (hi : i < 5) (hs : 0 ≤ s.toInt ∧ s.toInt ≤ 3) : th_F l yn_H_write cb_H_write 5 none { frames := 1, cells := 0, slots := 0, locals := 22 } [.inr (some (0, 0)), .inr (some (6, i)), .inl s, .inl v] (th_m I) (th_rv (fun J => th_Inv K sl Z J ∧ (True))) := by
  refine th_of hl (by decide +kernel) (Nat.le_of_ble_eq_true rfl) (fun z C hQ hN => ?_)
  show th_G l z 5 0 [(0, .inr (some (0, 0))), (1, .inr (some (6, i))), (2, .inl s), (3, .inl v)] [] (th_m I) 0 0
  have hb := hI.2.2.1
  refine th_aload_n C dc_H_write_0 rfl rfl ?_
  refine tq_getR C dc_H_write_1 cl_6 fd_H_115 rfl (show i < 5 from by omega) rfl ?_
  refine th_iload_n C dc_H_write_4 rfl rfl ?_
  refine tq_callVp C (c_Q_latest l hl I (2 * i) s hI (by omega)) ok_H_251 cl_11 (show 2 * i < 10 from by omega) rfl (Nat.le_of_ble_eq_true rfl) dc_H_write_5 rfl (fun x1 p1 => ?_)
  refine th_istore (lv' := [(0, .inr (some (0, 0))), (1, .inr (some (6, i))), (2, .inl s), (3, .inl v), (4, .inl x1)]) C dc_H_write_8 (by decide) rfl ?_
  refine th_iload C dc_H_write_10 rfl ?_
  refine th_iconst (v := -1) C dc_H_write_12 th_c_m1 ?_
  refine tq_icmp_ne (tgt := 26) C dc_H_write_13 (by decide) rfl th_l_m1 (fun c2 => ?_) (fun c2 => ?_)
  · refine th_aload_n C dc_H_write_26 rfl rfl ?_
    refine tq_getR C dc_H_write_27 cl_6 fd_H_115 rfl (show i < 5 from by omega) rfl ?_
    refine tq_getR C dc_H_write_30 cl_11 fd_H_255 rfl (show 2 * i < 10 from by omega) rfl ?_
    refine th_iload C dc_H_write_33 rfl ?_
    refine th_iload_n C dc_H_write_35 rfl rfl ?_
    obtain ⟨n3, m3⟩ := th_nat (a := x1.toInt) (by omega)
    refine tq_iastN C dc_H_write_36 rfl (fun _ => rfl) (show 2 * i < 10 from by omega) rfl m3 (show n3 < th_lp (2 * i) from by omega) ?_
    refine th_gen (P := fun J => th_Inv K sl Z J ∧ J = th_u I 13 (2 * i) n3 v) ⟨th_put hI (by decide) trivial, rfl⟩ (fun I4 hI4 => ?_)
    obtain ⟨hI4, u4⟩ := hI4
    have e4 : v = I4 13 (2 * i) n3 := by rw [u4, th_u_eq]
    have g4 : v.toInt = (I4 13 (2 * i) n3).toInt := by rw [← e4]
    exact th_vret C hQ dc_H_write_37 (by decide) (by decide) ⟨_, rfl, rfl, hI4, trivial⟩
  · refine th_aload_n C dc_H_write_16 rfl rfl ?_
    refine tq_getR C dc_H_write_17 cl_0 fd_H_32 rfl (show 0 < 1 from by omega) rfl ?_
    refine th_iload_n C dc_H_write_20 rfl rfl ?_
    refine th_iload_n C dc_H_write_21 rfl rfl ?_
    obtain ⟨n5, m5⟩ := th_nat (a := s.toInt) (by omega)
    refine tq_iastN C dc_H_write_22 rfl (fun _ => rfl) (show 0 < 1 from by omega) rfl m5 (show n5 < 4 from by omega) ?_
    refine th_gen (P := fun J => th_Inv K sl Z J ∧ J = th_u I 4 0 n5 v) ⟨th_put hI (by decide) trivial, rfl⟩ (fun I6 hI6 => ?_)
    obtain ⟨hI6, u6⟩ := hI6
    have e6 : v = I6 4 0 n5 := by rw [u6, th_u_eq]
    have g6 : v.toInt = (I6 4 0 n5).toInt := by rw [← e6]
    refine th_goto (tgt := 37) C dc_H_write_23 (by decide) ?_
    exact th_vret C hQ dc_H_write_37 (by decide) (by decide) ⟨_, rfl, rfl, hI6, trivial⟩

set_option maxRecDepth 100000 in
set_option maxHeartbeats 4000000 in
theorem c_H_bind (l : Launch) (hl : l.stackTraces = false) {K sl : Int} {Z : th_I} (I : th_I) (i : Nat) (s : Int32) (v : Int32) (hI : th_Inv K sl Z I) (hi : i < 5) (hs : 0 ≤ s.toInt ∧ s.toInt ≤ 3) : th_F l yn_H_bind cb_H_bind 3 (some .int) { frames := 2, cells := 0, slots := 0, locals := 42 } [.inr (some (6, i)), .inl s, .inl v] (th_m I) (th_ri (fun x J => th_Inv K sl Z J ∧ (0 ≤ x.toInt ∧ x.toInt ≤ 7))) := by
  refine th_of hl (by decide +kernel) (Nat.le_of_ble_eq_true rfl) (fun z C hQ hN => ?_)
  show th_G l z 3 0 [(0, .inr (some (6, i))), (1, .inl s), (2, .inl v)] [] (th_m I) 0 0
  have hb := hI.2.2.1
  refine th_aload_n C dc_H_bind_0 rfl rfl ?_
  refine tq_getR C dc_H_bind_1 cl_6 fd_H_115 rfl (show i < 5 from by omega) rfl ?_
  refine tq_callVp C (c_Q_isFull l hl I (2 * i) hI (by omega)) ok_H_258 cl_11 (show 2 * i < 10 from by omega) rfl (Nat.le_of_ble_eq_true rfl) dc_H_bind_4 rfl (fun x1 p1 => ?_)
  refine tq_if_eq (tgt := 12) C dc_H_bind_7 (by decide) rfl (fun c2 => ?_) (fun c2 => ?_)
  · refine th_aload_n C dc_H_bind_12 rfl rfl ?_
    refine tq_getR C dc_H_bind_13 cl_6 fd_H_115 rfl (show i < 5 from by omega) rfl ?_
    refine th_iload_n C dc_H_bind_16 rfl rfl ?_
    refine th_iload_n C dc_H_bind_17 rfl rfl ?_
    refine tq_callVv C (c_Q_append l hl I (2 * i) s v hI (by omega) (by omega)) ok_H_261 cl_11 (show 2 * i < 10 from by omega) rfl (Nat.le_of_ble_eq_true rfl) dc_H_bind_18 rfl (fun I3 p3 => ?_)
    obtain ⟨hI3, p3⟩ := p3
    refine th_iconst (v := 0) C dc_H_bind_21 th_c_0 ?_
    exact th_iret C hQ dc_H_bind_22 (by decide) (by decide) ⟨_, _, rfl, rfl, hI3, (by have := th_l_0; first | omega | (dsimp only; omega))⟩
  · refine th_iconst (v := 1) C dc_H_bind_10 th_c_1 ?_
    exact th_iret C hQ dc_H_bind_11 (by decide) (by decide) ⟨_, _, rfl, rfl, hI, (by have := th_l_1; first | omega | (dsimp only; omega))⟩

set_option maxRecDepth 100000 in
set_option maxHeartbeats 4000000 in
theorem c_H_unbind (l : Launch) (hl : l.stackTraces = false) {K sl : Int} {Z : th_I} (I : th_I) (i : Nat) (s : Int32) (hI : th_Inv K sl Z I) (hi : i < 5) : th_F l yn_H_unbind cb_H_unbind 3 (some .int) { frames := 1, cells := 0, slots := 0, locals := 22 } [.inr (some (6, i)), .inl s] (th_m I) (th_ri (fun x J => th_Inv K sl Z J ∧ (0 ≤ x.toInt ∧ x.toInt ≤ 7))) := by
  refine th_of hl (by decide +kernel) (Nat.le_of_ble_eq_true rfl) (fun z C hQ hN => ?_)
  show th_G l z 3 0 [(0, .inr (some (6, i))), (1, .inl s)] [] (th_m I) 0 0
  have hb := hI.2.2.1
  refine th_aload_n C dc_H_unbind_0 rfl rfl ?_
  refine tq_getR C dc_H_unbind_1 cl_6 fd_H_115 rfl (show i < 5 from by omega) rfl ?_
  refine th_iload_n C dc_H_unbind_4 rfl rfl ?_
  refine tq_callVp C (c_Q_latest l hl I (2 * i) s hI (by omega)) ok_H_251 cl_11 (show 2 * i < 10 from by omega) rfl (Nat.le_of_ble_eq_true rfl) dc_H_unbind_5 rfl (fun x1 p1 => ?_)
  refine th_istore_n (lv' := [(0, .inr (some (6, i))), (1, .inl s), (2, .inl x1)]) C dc_H_unbind_8 rfl (by decide) rfl ?_
  refine th_iload_n C dc_H_unbind_9 rfl rfl ?_
  refine th_iconst (v := -1) C dc_H_unbind_10 th_c_m1 ?_
  refine tq_icmp_ne (tgt := 16) C dc_H_unbind_11 (by decide) rfl th_l_m1 (fun c2 => ?_) (fun c2 => ?_)
  · refine th_aload_n C dc_H_unbind_16 rfl rfl ?_
    refine tq_getR C dc_H_unbind_17 cl_6 fd_H_115 rfl (show i < 5 from by omega) rfl ?_
    refine th_iload_n C dc_H_unbind_20 rfl rfl ?_
    refine tq_callVv C (c_Q_takeOut l hl I (2 * i) x1 hI (by omega) (by omega)) ok_H_263 cl_11 (show 2 * i < 10 from by omega) rfl (Nat.le_of_ble_eq_true rfl) dc_H_unbind_21 rfl (fun I3 p3 => ?_)
    obtain ⟨hI3, p3⟩ := p3
    refine th_iconst (v := 0) C dc_H_unbind_24 th_c_0 ?_
    exact th_iret C hQ dc_H_unbind_25 (by decide) (by decide) ⟨_, _, rfl, rfl, hI3, (by have := th_l_0; first | omega | (dsimp only; omega))⟩
  · refine th_iconst (v := 2) C dc_H_unbind_14 th_c_2 ?_
    exact th_iret C hQ dc_H_unbind_15 (by decide) (by decide) ⟨_, _, rfl, rfl, hI, (by have := th_l_2; first | omega | (dsimp only; omega))⟩

set_option maxRecDepth 100000 in
set_option maxHeartbeats 4000000 in
theorem c_H_hook (l : Launch) (hl : l.stackTraces = false) {K sl : Int} {Z : th_I} (I : th_I) (i : Nat) (s : Int32) (v : Int32) (hI : th_Inv K sl Z I) (hi : i < 5) (hs : 0 ≤ s.toInt ∧ s.toInt ≤ 3) : th_F l yn_H_hook cb_H_hook 3 (some .int) { frames := 2, cells := 0, slots := 0, locals := 42 } [.inr (some (6, i)), .inl s, .inl v] (th_m I) (th_ri (fun x J => th_Inv K sl Z J ∧ (0 ≤ x.toInt ∧ x.toInt ≤ 7))) := by
  refine th_of hl (by decide +kernel) (Nat.le_of_ble_eq_true rfl) (fun z C hQ hN => ?_)
  show th_G l z 3 0 [(0, .inr (some (6, i))), (1, .inl s), (2, .inl v)] [] (th_m I) 0 0
  have hb := hI.2.2.1
  refine th_aload_n C dc_H_hook_0 rfl rfl ?_
  refine tq_getR C dc_H_hook_1 cl_6 fd_H_122 rfl (show i < 5 from by omega) rfl ?_
  refine tq_callVp C (c_Q_isFull l hl I (2 * i + 1) hI (by omega)) ok_H_258 cl_11 (show 2 * i + 1 < 10 from by omega) rfl (Nat.le_of_ble_eq_true rfl) dc_H_hook_4 rfl (fun x1 p1 => ?_)
  refine tq_if_eq (tgt := 13) C dc_H_hook_7 (by decide) rfl (fun c2 => ?_) (fun c2 => ?_)
  · refine th_aload_n C dc_H_hook_13 rfl rfl ?_
    refine tq_getR C dc_H_hook_14 cl_6 fd_H_122 rfl (show i < 5 from by omega) rfl ?_
    refine th_iload_n C dc_H_hook_17 rfl rfl ?_
    refine th_iload_n C dc_H_hook_18 rfl rfl ?_
    refine tq_callVv C (c_Q_append l hl I (2 * i + 1) s v hI (by omega) (by omega)) ok_H_261 cl_11 (show 2 * i + 1 < 10 from by omega) rfl (Nat.le_of_ble_eq_true rfl) dc_H_hook_19 rfl (fun I3 p3 => ?_)
    obtain ⟨hI3, p3⟩ := p3
    refine th_iconst (v := 0) C dc_H_hook_22 th_c_0 ?_
    exact th_iret C hQ dc_H_hook_23 (by decide) (by decide) ⟨_, _, rfl, rfl, hI3, (by have := th_l_0; first | omega | (dsimp only; omega))⟩
  · refine th_bipush (v := 6) C dc_H_hook_10 th_b_6 ?_
    exact th_iret C hQ dc_H_hook_12 (by decide) (by decide) ⟨_, _, rfl, rfl, hI, (by have := th_l_6; first | omega | (dsimp only; omega))⟩

set_option maxRecDepth 100000 in
set_option maxHeartbeats 4000000 in
theorem c_H_jumpIfZero (l : Launch) (hl : l.stackTraces = false) {K sl : Int} {Z : th_I} (I : th_I) (i : Nat) (s : Int32) (p : Int32) (hI : th_Inv K sl Z I) (hi : i < 5) (hs : 0 ≤ s.toInt ∧ s.toInt ≤ 3) (hp : 0 ≤ p.toInt ∧ p.toInt ≤ 24) : th_F l yn_H_jumpIfZero cb_H_jumpIfZero 4 none { frames := 2, cells := 0, slots := 0, locals := 45 } [.inr (some (0, 0)), .inr (some (6, i)), .inl s, .inl p] (th_m I) (th_rv (fun J => th_Inv K sl Z J ∧ (True))) := by
  refine th_of hl (by decide +kernel) (Nat.le_of_ble_eq_true rfl) (fun z C hQ hN => ?_)
  show th_G l z 4 0 [(0, .inr (some (0, 0))), (1, .inr (some (6, i))), (2, .inl s), (3, .inl p)] [] (th_m I) 0 0
  have hb := hI.2.2.1
  refine th_aload_n C dc_H_jumpIfZero_0 rfl rfl ?_
  refine th_aload_n C dc_H_jumpIfZero_1 rfl rfl ?_
  refine th_iload_n C dc_H_jumpIfZero_2 rfl rfl ?_
  refine tq_callVp C (c_H_read l hl I i s hI (by omega) (by omega)) ok_H_102 cl_0 (show 0 < 1 from by omega) rfl (Nat.le_of_ble_eq_true rfl) dc_H_jumpIfZero_3 rfl (fun x1 p1 => ?_)
  refine tq_if_ne (tgt := 14) C dc_H_jumpIfZero_6 (by decide) rfl (fun c2 => ?_) (fun c2 => ?_)
  · exact th_vret C hQ dc_H_jumpIfZero_14 (by decide) (by decide) ⟨_, rfl, rfl, hI, trivial⟩
  · refine th_aload_n C dc_H_jumpIfZero_9 rfl rfl ?_
    refine th_iload_n C dc_H_jumpIfZero_10 rfl rfl ?_
    refine tq_putI C dc_H_jumpIfZero_11 cl_6 fd_H_109 rfl (show i < 5 from by omega) rfl rfl ?_
    refine th_gen (P := fun J => th_Inv K sl Z J ∧ J = th_u I 6 i 6 p) ⟨th_put hI (by decide) (show 0 ≤ p.toInt ∧ p.toInt ≤ 24 from by omega), rfl⟩ (fun I3 hI3 => ?_)
    obtain ⟨hI3, u3⟩ := hI3
    have e3 : p = I3 6 i 6 := by rw [u3, th_u_eq]
    have g3 : p.toInt = (I3 6 i 6).toInt := by rw [← e3]
    exact th_vret C hQ dc_H_jumpIfZero_14 (by decide) (by decide) ⟨_, rfl, rfl, hI3, trivial⟩

set_option maxRecDepth 100000 in
set_option maxHeartbeats 4000000 in
theorem c_H_keepSaid (l : Launch) (hl : l.stackTraces = false) {K sl : Int} {Z : th_I} (I : th_I) (v : Int32) (hI : th_Inv K sl Z I) (hK : K < 1000000) : th_F l yn_H_keepSaid cb_H_keepSaid 2 none { frames := 0, cells := 0, slots := 0, locals := 0 } [.inr (some (0, 0)), .inl v] (th_m I) (th_rv (fun J => th_Inv (K + 1) sl Z J ∧ (True))) := by
  refine th_of hl (by decide +kernel) (Nat.le_of_ble_eq_true rfl) (fun z C hQ hN => ?_)
  show th_G l z 2 0 [(0, .inr (some (0, 0))), (1, .inl v)] [] (th_m I) 0 0
  have hb := hI.2.2.1
  refine th_aload_n C dc_H_keepSaid_0 rfl rfl ?_
  refine tq_getI C dc_H_keepSaid_1 cl_0 fd_H_155 rfl (show 0 < 1 from by omega) (fun x1 e1 => ?_)
  have g1 : x1.toInt = (I 0 0 5).toInt := by rw [e1]
  have r1 : 0 ≤ x1.toInt ∧ x1.toInt ≤ K := by rw [e1]; exact hI.1 0 0 5
  refine th_bipush (v := 40) C dc_H_keepSaid_4 th_b_40 ?_
  refine tq_icmp_ge (tgt := 19) C dc_H_keepSaid_6 (by decide) rfl th_l_40 (fun c2 => ?_) (fun c2 => ?_)
  · refine th_aload_n C dc_H_keepSaid_19 rfl rfl ?_
    refine th_dup C dc_H_keepSaid_20 ?_
    refine tq_getIe C dc_H_keepSaid_21 cl_0 fd_H_155 rfl (show 0 < 1 from by omega) e1 ?_
    refine th_iconst (v := 1) C dc_H_keepSaid_24 th_c_1 ?_
    refine tq_iadd C dc_H_keepSaid_25 rfl th_l_1 (fun x3 e3 a3 => ?_)
    refine tq_putI C dc_H_keepSaid_26 cl_0 fd_H_155 rfl (show 0 < 1 from by omega) rfl rfl ?_
    refine th_gen (P := fun J => J = th_u I 0 0 5 x3) rfl (fun I4 u4 => ?_)
    have e4 : x3 = I4 0 0 5 := by rw [u4, th_u_eq]
    have g4 : x3.toInt = (I4 0 0 5).toInt := by rw [← e4]
    exact th_vret C hQ dc_H_keepSaid_29 (by decide) (by decide) ⟨_, rfl, rfl, (by rw [u4]; exact th_put (th_mono hI (by omega) (by omega)) (by decide) (show _ ∧ _ from by omega)), trivial⟩
  · refine th_aload_n C dc_H_keepSaid_9 rfl rfl ?_
    refine tq_getR C dc_H_keepSaid_10 cl_0 fd_H_36 rfl (show 0 < 1 from by omega) rfl ?_
    refine th_aload_n C dc_H_keepSaid_13 rfl rfl ?_
    refine tq_getIe C dc_H_keepSaid_14 cl_0 fd_H_155 rfl (show 0 < 1 from by omega) e1 ?_
    refine th_iload_n C dc_H_keepSaid_17 rfl rfl ?_
    obtain ⟨n5, m5⟩ := th_nat (a := x1.toInt) (by omega)
    refine tq_iastN C dc_H_keepSaid_18 rfl (fun _ => rfl) (show 0 < 1 from by omega) rfl m5 (show n5 < 40 from by omega) ?_
    refine th_gen (P := fun J => J = th_u I 5 0 n5 v) rfl (fun I6 u6 => ?_)
    have e7 : x1 = I6 0 0 5 := by rw [u6, th_u_tag (by decide)]; exact e1
    have g7 : x1.toInt = (I6 0 0 5).toInt := by rw [← e7]
    have e6 : v = I6 5 0 n5 := by rw [u6, th_u_eq]
    have g6 : v.toInt = (I6 5 0 n5).toInt := by rw [← e6]
    refine th_aload_n C dc_H_keepSaid_19 rfl rfl ?_
    refine th_dup C dc_H_keepSaid_20 ?_
    refine tq_getIe C dc_H_keepSaid_21 cl_0 fd_H_155 rfl (show 0 < 1 from by omega) e7 ?_
    refine th_iconst (v := 1) C dc_H_keepSaid_24 th_c_1 ?_
    refine tq_iadd C dc_H_keepSaid_25 rfl th_l_1 (fun x8 e8 a8 => ?_)
    refine tq_putI C dc_H_keepSaid_26 cl_0 fd_H_155 rfl (show 0 < 1 from by omega) rfl rfl ?_
    refine th_gen (P := fun J => J = th_u I6 0 0 5 x8) rfl (fun I9 u9 => ?_)
    have e10 : v = I9 5 0 n5 := by rw [u9, th_u_tag (by decide)]; exact e6
    have g10 : v.toInt = (I9 5 0 n5).toInt := by rw [← e10]
    have e9 : x8 = I9 0 0 5 := by rw [u9, th_u_eq]
    have g9 : x8.toInt = (I9 0 0 5).toInt := by rw [← e9]
    exact th_vret C hQ dc_H_keepSaid_29 (by decide) (by decide) ⟨_, rfl, rfl, (by rw [u9, u6]; exact th_put (th_mono (th_put hI (by decide) trivial) (by omega) (by omega)) (by decide) (show _ ∧ _ from by omega)), trivial⟩

set_option maxRecDepth 100000 in
set_option maxHeartbeats 4000000 in
theorem c_H_goFor (l : Launch) (hl : l.stackTraces = false) {K sl : Int} {Z : th_I} (I : th_I) (i : Nat) (m : Int32) (v : Int32) (hI : th_Inv K sl Z I) (hi : i < 5) (hm : 0 ≤ m.toInt ∧ m.toInt ≤ 2) : th_F l yn_H_goFor cb_H_goFor 5 none { frames := 1, cells := 0, slots := 0, locals := 22 } [.inr (some (0, 0)), .inr (some (6, i)), .inl m, .inl v] (th_m I) (th_rv (fun J => th_Inv K sl Z J ∧ (True))) := by
  refine th_of hl (by decide +kernel) (Nat.le_of_ble_eq_true rfl) (fun z C hQ hN => ?_)
  show th_G l z 5 0 [(0, .inr (some (0, 0))), (1, .inr (some (6, i))), (2, .inl m), (3, .inl v)] [] (th_m I) 0 0
  have hb := hI.2.2.1
  refine th_aload_n C dc_H_goFor_0 rfl rfl ?_
  refine tq_getR C dc_H_goFor_1 cl_0 fd_H_20 rfl (show 0 < 1 from by omega) rfl ?_
  refine th_iload_n C dc_H_goFor_4 rfl rfl ?_
  obtain ⟨n1, m1⟩ := th_nat (a := m.toInt) (by omega)
  refine tq_aaldN C dc_H_goFor_5 rfl (fun _ => rfl) (show 0 < 1 from by omega) rfl m1 (show n1 < 3 from by omega) (fun _ => rfl) ?_
  refine th_astore (lv' := [(0, .inr (some (0, 0))), (1, .inr (some (6, i))), (2, .inl m), (3, .inl v), (4, .inr (some (16, n1)))]) C dc_H_goFor_6 (by decide) rfl ?_
  refine th_aload C dc_H_goFor_8 rfl ?_
  refine th_aload_n C dc_H_goFor_10 rfl rfl ?_
  refine tq_getI C dc_H_goFor_11 cl_6 fd_H_176 rfl (show i < 5 from by omega) (fun x2 e2 => ?_)
  have g2 : x2.toInt = (I 6 i 0).toInt := by rw [e2]
  have r2 : x2.toInt = (i : Int) ∨ 5 ≤ i := by rw [e2]; exact hI.1 6 i 0
  refine tq_callVp C (c_M_isOpenTo l hl I n1 x2 (by omega)) ok_H_266 cl_16 (show n1 < 3 from by omega) rfl (Nat.le_of_ble_eq_true rfl) dc_H_goFor_14 rfl (fun x3 p3 => ?_)
  refine tq_if_eq (tgt := 38) C dc_H_goFor_17 (by decide) rfl (fun c4 => ?_) (fun c4 => ?_)
  · refine th_aload_n C dc_H_goFor_38 rfl rfl ?_
    refine th_iload_n C dc_H_goFor_39 rfl rfl ?_
    refine tq_putI C dc_H_goFor_40 cl_6 fd_H_273 rfl (show i < 5 from by omega) rfl rfl ?_
    refine th_gen (P := fun J => th_Inv K sl Z J ∧ J = th_u I 6 i 15 v) ⟨th_put hI (by decide) trivial, rfl⟩ (fun I5 hI5 => ?_)
    obtain ⟨hI5, u5⟩ := hI5
    have e6 : x2 = I5 6 i 0 := by rw [u5, th_u_slot (by decide)]; exact e2
    have g6 : x2.toInt = (I5 6 i 0).toInt := by rw [← e6]
    have e5 : v = I5 6 i 15 := by rw [u5, th_u_eq]
    have g5 : v.toInt = (I5 6 i 15).toInt := by rw [← e5]
    refine th_aload_n C dc_H_goFor_43 rfl rfl ?_
    refine th_iconst (v := 2) C dc_H_goFor_44 th_c_2 ?_
    refine tq_putI C dc_H_goFor_45 cl_6 fd_H_106 rfl (show i < 5 from by omega) rfl rfl ?_
    refine th_gen (P := fun J => th_Inv K sl Z J ∧ J = th_u I5 6 i 5 ((2 : Int32))) ⟨th_put hI5 (by decide) trivial, rfl⟩ (fun I7 hI7 => ?_)
    obtain ⟨hI7, u7⟩ := hI7
    have e8 : x2 = I7 6 i 0 := by rw [u7, th_u_slot (by decide)]; exact e6
    have g8 : x2.toInt = (I7 6 i 0).toInt := by rw [← e8]
    have e9 : v = I7 6 i 15 := by rw [u7, th_u_slot (by decide)]; exact e5
    have g9 : v.toInt = (I7 6 i 15).toInt := by rw [← e9]
    have e7 : (2 : Int32) = I7 6 i 5 := by rw [u7, th_u_eq]
    have g7 : 2 = (I7 6 i 5).toInt := by rw [← e7]; exact th_l_2.symm
    refine th_aload C dc_H_goFor_48 rfl ?_
    refine tq_getR C dc_H_goFor_50 cl_16 fd_H_152 rfl (show n1 < 3 from by omega) rfl ?_
    refine th_aload_n C dc_H_goFor_53 rfl rfl ?_
    refine tq_getIe C dc_H_goFor_54 cl_6 fd_H_176 rfl (show i < 5 from by omega) e8 ?_
    refine tq_callVv C (c_R_append l hl I7 (5 + n1) x2 hI7 (by omega) (by omega)) ok_H_276 cl_14 (show 5 + n1 < 11 from by omega) rfl (Nat.le_of_ble_eq_true rfl) dc_H_goFor_57 rfl (fun I10 p10 => ?_)
    obtain ⟨hI10, p10⟩ := p10
    exact th_vret C hQ dc_H_goFor_60 (by decide) (by decide) ⟨_, rfl, rfl, hI10, trivial⟩
  · refine th_aload C dc_H_goFor_20 rfl ?_
    refine th_aload_n C dc_H_goFor_22 rfl rfl ?_
    refine tq_getIe C dc_H_goFor_23 cl_6 fd_H_176 rfl (show i < 5 from by omega) e2 ?_
    refine th_iload_n C dc_H_goFor_26 rfl rfl ?_
    refine tq_callVv C (c_M_give l hl I n1 x2 v hI (by omega)) ok_H_270 cl_16 (show n1 < 3 from by omega) rfl (Nat.le_of_ble_eq_true rfl) dc_H_goFor_27 rfl (fun I11 p11 => ?_)
    obtain ⟨hI11, p11⟩ := p11
    refine th_aload_n C dc_H_goFor_30 rfl rfl ?_
    refine th_iconst (v := 1) C dc_H_goFor_31 th_c_1 ?_
    refine tq_putI C dc_H_goFor_32 cl_6 fd_H_106 rfl (show i < 5 from by omega) rfl rfl ?_
    refine th_gen (P := fun J => th_Inv K sl Z J ∧ J = th_u I11 6 i 5 ((1 : Int32))) ⟨th_put hI11 (by decide) trivial, rfl⟩ (fun I12 hI12 => ?_)
    obtain ⟨hI12, u12⟩ := hI12
    have e12 : (1 : Int32) = I12 6 i 5 := by rw [u12, th_u_eq]
    have g12 : 1 = (I12 6 i 5).toInt := by rw [← e12]; exact th_l_1.symm
    refine th_goto (tgt := 60) C dc_H_goFor_35 (by decide) ?_
    exact th_vret C hQ dc_H_goFor_60 (by decide) (by decide) ⟨_, rfl, rfl, hI12, trivial⟩

set_option maxRecDepth 100000 in
set_option maxHeartbeats 4000000 in
theorem c_H_passOn (l : Launch) (hl : l.stackTraces = false) {K sl : Int} {Z : th_I} (I : th_I) (m : Nat) (hI : th_Inv K sl Z I) (hm : m < 3) : th_F l yn_H_passOn cb_H_passOn 3 none { frames := 2, cells := 0, slots := 0, locals := 44 } [.inr (some (0, 0)), .inr (some (16, m))] (th_m I) (th_rv (fun J => th_Inv K sl Z J ∧ (True))) := by
  refine th_of hl (by decide +kernel) (Nat.le_of_ble_eq_true rfl) (fun z C hQ hN => ?_)
  show th_G l z 3 0 [(0, .inr (some (0, 0))), (1, .inr (some (16, m)))] [] (th_m I) 0 0
  have hb := hI.2.2.1
  refine th_aload_n C dc_H_passOn_0 rfl rfl ?_
  refine th_iconst (v := -1) C dc_H_passOn_1 th_c_m1 ?_
  refine tq_putI C dc_H_passOn_2 cl_16 fd_H_146 rfl (show m < 3 from by omega) rfl rfl ?_
  refine th_gen (P := fun J => th_Inv K sl Z J ∧ J = th_u I 16 m 1 ((-1 : Int32))) ⟨th_put hI (by decide) trivial, rfl⟩ (fun I1 hI1 => ?_)
  obtain ⟨hI1, u1⟩ := hI1
  have e1 : (-1 : Int32) = I1 16 m 1 := by rw [u1, th_u_eq]
  have g1 : -1 = (I1 16 m 1).toInt := by rw [← e1]; exact th_l_m1.symm
  refine th_aload_n C dc_H_passOn_5 rfl rfl ?_
  refine th_iconst (v := 0) C dc_H_passOn_6 th_c_0 ?_
  refine tq_putI C dc_H_passOn_7 cl_16 fd_H_149 rfl (show m < 3 from by omega) rfl rfl ?_
  refine th_gen (P := fun J => th_Inv K sl Z J ∧ J = th_u I1 16 m 2 ((0 : Int32))) ⟨th_put hI1 (by decide) trivial, rfl⟩ (fun I2 hI2 => ?_)
  obtain ⟨hI2, u2⟩ := hI2
  have e3 : (-1 : Int32) = I2 16 m 1 := by rw [u2, th_u_slot (by decide)]; exact e1
  have g3 : (-1 : Int32).toInt = (I2 16 m 1).toInt := by rw [← e3]
  have e2 : (0 : Int32) = I2 16 m 2 := by rw [u2, th_u_eq]
  have g2 : 0 = (I2 16 m 2).toInt := by rw [← e2]; exact th_l_0.symm
  refine th_aload_n C dc_H_passOn_10 rfl rfl ?_
  refine tq_getR C dc_H_passOn_11 cl_16 fd_H_152 rfl (show m < 3 from by omega) rfl ?_
  refine tq_callVi C (c_R_takeFirst l hl I2 (5 + m) hI2 (by omega)) ok_H_282 cl_14 (show 5 + m < 11 from by omega) rfl (Nat.le_of_ble_eq_true rfl) dc_H_passOn_14 rfl (fun x4 I4 p4 => ?_)
  obtain ⟨hI4, p4⟩ := p4
  refine th_istore_n (lv' := [(0, .inr (some (0, 0))), (1, .inr (some (16, m))), (2, .inl x4)]) C dc_H_passOn_17 rfl (by decide) rfl ?_
  refine th_iload_n C dc_H_passOn_18 rfl rfl ?_
  refine th_iconst (v := -1) C dc_H_passOn_19 th_c_m1 ?_
  refine tq_icmp_eq (tgt := 47) C dc_H_passOn_20 (by decide) rfl th_l_m1 (fun c5 => ?_) (fun c5 => ?_)
  · exact th_vret C hQ dc_H_passOn_47 (by decide) (by decide) ⟨_, rfl, rfl, hI4, trivial⟩
  · refine th_aload_n C dc_H_passOn_23 rfl rfl ?_
    refine th_iload_n C dc_H_passOn_24 rfl rfl ?_
    refine th_aload_n C dc_H_passOn_25 rfl rfl ?_
    refine tq_getR C dc_H_passOn_26 cl_0 fd_H_11 rfl (show 0 < 1 from by omega) rfl ?_
    refine th_iload_n C dc_H_passOn_29 rfl rfl ?_
    obtain ⟨n6, m6⟩ := th_nat (a := x4.toInt) (by omega)
    refine tq_aaldN C dc_H_passOn_30 rfl (fun _ => rfl) (show 0 < 1 from by omega) rfl m6 (show n6 < 5 from by omega) (fun _ => rfl) ?_
    refine tq_getI C dc_H_passOn_31 cl_6 fd_H_273 rfl (show n6 < 5 from by omega) (fun x7 e7 => ?_)
    have g7 : x7.toInt = (I4 6 n6 15).toInt := by rw [e7]
    refine tq_callVv C (c_M_give l hl I4 m x4 x7 hI4 (by omega)) ok_H_270 cl_16 (show m < 3 from by omega) rfl (Nat.le_of_ble_eq_true rfl) dc_H_passOn_34 rfl (fun I8 p8 => ?_)
    obtain ⟨hI8, p8⟩ := p8
    refine th_aload_n C dc_H_passOn_37 rfl rfl ?_
    refine tq_getR C dc_H_passOn_38 cl_0 fd_H_11 rfl (show 0 < 1 from by omega) rfl ?_
    refine th_iload_n C dc_H_passOn_41 rfl rfl ?_
    refine tq_aaldN C dc_H_passOn_42 rfl (fun _ => rfl) (show 0 < 1 from by omega) rfl m6 (show n6 < 5 from by omega) (fun _ => rfl) ?_
    refine th_iconst (v := 1) C dc_H_passOn_43 th_c_1 ?_
    refine tq_putI C dc_H_passOn_44 cl_6 fd_H_106 rfl (show n6 < 5 from by omega) rfl rfl ?_
    refine th_gen (P := fun J => th_Inv K sl Z J ∧ J = th_u I8 6 n6 5 ((1 : Int32))) ⟨th_put hI8 (by decide) trivial, rfl⟩ (fun I9 hI9 => ?_)
    obtain ⟨hI9, u9⟩ := hI9
    have e9 : (1 : Int32) = I9 6 n6 5 := by rw [u9, th_u_eq]
    have g9 : 1 = (I9 6 n6 5).toInt := by rw [← e9]; exact th_l_1.symm
    exact th_vret C hQ dc_H_passOn_47 (by decide) (by decide) ⟨_, rfl, rfl, hI9, trivial⟩

set_option maxRecDepth 100000 in
set_option maxHeartbeats 4000000 in
theorem c_H_unlock (l : Launch) (hl : l.stackTraces = false) {K sl : Int} {Z : th_I} (I : th_I) (i : Nat) (m : Int32) (hI : th_Inv K sl Z I) (hi : i < 5) (hm : 0 ≤ m.toInt ∧ m.toInt ≤ 2) : th_F l yn_H_unlock cb_H_unlock 4 (some .int) { frames := 3, cells := 0, slots := 0, locals := 66 } [.inr (some (0, 0)), .inr (some (6, i)), .inl m] (th_m I) (th_ri (fun x J => th_Inv K sl Z J ∧ (0 ≤ x.toInt ∧ x.toInt ≤ 7))) := by
  refine th_of hl (by decide +kernel) (Nat.le_of_ble_eq_true rfl) (fun z C hQ hN => ?_)
  show th_G l z 4 0 [(0, .inr (some (0, 0))), (1, .inr (some (6, i))), (2, .inl m)] [] (th_m I) 0 0
  have hb := hI.2.2.1
  refine th_aload_n C dc_H_unlock_0 rfl rfl ?_
  refine tq_getR C dc_H_unlock_1 cl_0 fd_H_20 rfl (show 0 < 1 from by omega) rfl ?_
  refine th_iload_n C dc_H_unlock_4 rfl rfl ?_
  obtain ⟨n1, m1⟩ := th_nat (a := m.toInt) (by omega)
  refine tq_aaldN C dc_H_unlock_5 rfl (fun _ => rfl) (show 0 < 1 from by omega) rfl m1 (show n1 < 3 from by omega) (fun _ => rfl) ?_
  refine th_astore_n (lv' := [(0, .inr (some (0, 0))), (1, .inr (some (6, i))), (2, .inl m), (3, .inr (some (16, n1)))]) C dc_H_unlock_6 rfl (by decide) rfl ?_
  refine th_aload_n C dc_H_unlock_7 rfl rfl ?_
  refine tq_getI C dc_H_unlock_8 cl_16 fd_H_146 rfl (show n1 < 3 from by omega) (fun x2 e2 => ?_)
  have g2 : x2.toInt = (I 16 n1 1).toInt := by rw [e2]
  refine th_aload_n C dc_H_unlock_11 rfl rfl ?_
  refine tq_getI C dc_H_unlock_12 cl_6 fd_H_176 rfl (show i < 5 from by omega) (fun x3 e3 => ?_)
  have g3 : x3.toInt = (I 6 i 0).toInt := by rw [e3]
  have r3 : x3.toInt = (i : Int) ∨ 5 ≤ i := by rw [e3]; exact hI.1 6 i 0
  refine tq_icmp_eq (tgt := 20) C dc_H_unlock_15 (by decide) rfl rfl (fun c4 => ?_) (fun c4 => ?_)
  · refine th_aload_n C dc_H_unlock_20 rfl rfl ?_
    refine th_dup C dc_H_unlock_21 ?_
    refine tq_getI C dc_H_unlock_22 cl_16 fd_H_149 rfl (show n1 < 3 from by omega) (fun x5 e5 => ?_)
    have g5 : x5.toInt = (I 16 n1 2).toInt := by rw [e5]
    refine th_iconst (v := 1) C dc_H_unlock_25 th_c_1 ?_
    refine tq_isub C dc_H_unlock_26 rfl th_l_1 (fun x6 e6 a6 => ?_)
    refine tq_putI C dc_H_unlock_27 cl_16 fd_H_149 rfl (show n1 < 3 from by omega) rfl rfl ?_
    refine th_gen (P := fun J => th_Inv K sl Z J ∧ J = th_u I 16 n1 2 x6) ⟨th_put hI (by decide) trivial, rfl⟩ (fun I7 hI7 => ?_)
    obtain ⟨hI7, u7⟩ := hI7
    have e8 : x2 = I7 16 n1 1 := by rw [u7, th_u_slot (by decide)]; exact e2
    have g8 : x2.toInt = (I7 16 n1 1).toInt := by rw [← e8]
    have e9 : x3 = I7 6 i 0 := by rw [u7, th_u_tag (by decide)]; exact e3
    have g9 : x3.toInt = (I7 6 i 0).toInt := by rw [← e9]
    have e7 : x6 = I7 16 n1 2 := by rw [u7, th_u_eq]
    have g7 : x6.toInt = (I7 16 n1 2).toInt := by rw [← e7]
    refine th_aload_n C dc_H_unlock_30 rfl rfl ?_
    refine tq_getIe C dc_H_unlock_31 cl_16 fd_H_149 rfl (show n1 < 3 from by omega) e7 ?_
    refine tq_if_ne (tgt := 42) C dc_H_unlock_34 (by decide) rfl (fun c10 => ?_) (fun c10 => ?_)
    · refine th_iconst (v := 0) C dc_H_unlock_42 th_c_0 ?_
      exact th_iret C hQ dc_H_unlock_43 (by decide) (by decide) ⟨_, _, rfl, rfl, hI7, (by have := th_l_0; first | omega | (dsimp only; omega))⟩
    · refine th_aload_n C dc_H_unlock_37 rfl rfl ?_
      refine th_aload_n C dc_H_unlock_38 rfl rfl ?_
      refine tq_callVv C (c_H_passOn l hl I7 n1 hI7 (by omega)) ok_H_278 cl_0 (show 0 < 1 from by omega) rfl (Nat.le_of_ble_eq_true rfl) dc_H_unlock_39 rfl (fun I11 p11 => ?_)
      obtain ⟨hI11, p11⟩ := p11
      refine th_iconst (v := 0) C dc_H_unlock_42 th_c_0 ?_
      exact th_iret C hQ dc_H_unlock_43 (by decide) (by decide) ⟨_, _, rfl, rfl, hI11, (by have := th_l_0; first | omega | (dsimp only; omega))⟩
  · refine th_iconst (v := 3) C dc_H_unlock_18 th_c_3 ?_
    exact th_iret C hQ dc_H_unlock_19 (by decide) (by decide) ⟨_, _, rfl, rfl, hI, (by have := th_l_3; first | omega | (dsimp only; omega))⟩

set_option maxRecDepth 100000 in
set_option maxHeartbeats 4000000 in
theorem c_H_tryLock (l : Launch) (hl : l.stackTraces = false) {K sl : Int} {Z : th_I} (I : th_I) (i : Nat) (m : Int32) (s : Int32) (hI : th_Inv K sl Z I) (hi : i < 5) (hm : 0 ≤ m.toInt ∧ m.toInt ≤ 2) (hs : 0 ≤ s.toInt ∧ s.toInt ≤ 3) : th_F l yn_H_tryLock cb_H_tryLock 5 none { frames := 2, cells := 0, slots := 0, locals := 46 } [.inr (some (0, 0)), .inr (some (6, i)), .inl m, .inl s] (th_m I) (th_rv (fun J => th_Inv K sl Z J ∧ (True))) := by
  refine th_of hl (by decide +kernel) (Nat.le_of_ble_eq_true rfl) (fun z C hQ hN => ?_)
  show th_G l z 5 0 [(0, .inr (some (0, 0))), (1, .inr (some (6, i))), (2, .inl m), (3, .inl s)] [] (th_m I) 0 0
  have hb := hI.2.2.1
  refine th_aload_n C dc_H_tryLock_0 rfl rfl ?_
  refine tq_getR C dc_H_tryLock_1 cl_0 fd_H_20 rfl (show 0 < 1 from by omega) rfl ?_
  refine th_iload_n C dc_H_tryLock_4 rfl rfl ?_
  obtain ⟨n1, m1⟩ := th_nat (a := m.toInt) (by omega)
  refine tq_aaldN C dc_H_tryLock_5 rfl (fun _ => rfl) (show 0 < 1 from by omega) rfl m1 (show n1 < 3 from by omega) (fun _ => rfl) ?_
  refine th_aload_n C dc_H_tryLock_6 rfl rfl ?_
  refine tq_getI C dc_H_tryLock_7 cl_6 fd_H_176 rfl (show i < 5 from by omega) (fun x2 e2 => ?_)
  have g2 : x2.toInt = (I 6 i 0).toInt := by rw [e2]
  have r2 : x2.toInt = (i : Int) ∨ 5 ≤ i := by rw [e2]; exact hI.1 6 i 0
  refine tq_callVp C (c_M_isOpenTo l hl I n1 x2 (by omega)) ok_H_266 cl_16 (show n1 < 3 from by omega) rfl (Nat.le_of_ble_eq_true rfl) dc_H_tryLock_10 rfl (fun x3 p3 => ?_)
  refine th_istore (lv' := [(0, .inr (some (0, 0))), (1, .inr (some (6, i))), (2, .inl m), (3, .inl s), (4, .inl x3)]) C dc_H_tryLock_13 (by decide) rfl ?_
  refine th_iload C dc_H_tryLock_15 rfl ?_
  refine tq_if_eq (tgt := 34) C dc_H_tryLock_17 (by decide) rfl (fun c4 => ?_) (fun c4 => ?_)
  · refine th_aload_n C dc_H_tryLock_34 rfl rfl ?_
    refine th_aload_n C dc_H_tryLock_35 rfl rfl ?_
    refine th_iload_n C dc_H_tryLock_36 rfl rfl ?_
    refine th_iload C dc_H_tryLock_37 rfl ?_
    refine tq_if_eq (tgt := 46) C dc_H_tryLock_39 (by decide) rfl (fun c5 => ?_) (fun c5 => ?_)
    · refine th_iconst (v := 0) C dc_H_tryLock_46 th_c_0 ?_
      refine tq_callVv C (c_H_write l hl I i s ((0 : Int32)) hI (by have := th_l_0; omega) (by have := th_l_0; omega)) ok_H_205 cl_0 (show 0 < 1 from by omega) rfl (Nat.le_of_ble_eq_true rfl) dc_H_tryLock_47 rfl (fun I6 p6 => ?_)
      obtain ⟨hI6, p6⟩ := p6
      try simp only [th_l_0] at p6
      exact th_vret C hQ dc_H_tryLock_50 (by decide) (by decide) ⟨_, rfl, rfl, hI6, trivial⟩
    · refine th_iconst (v := 1) C dc_H_tryLock_42 th_c_1 ?_
      refine th_goto (tgt := 47) C dc_H_tryLock_43 (by decide) ?_
      refine tq_callVv C (c_H_write l hl I i s ((1 : Int32)) hI (by have := th_l_1; omega) (by have := th_l_1; omega)) ok_H_205 cl_0 (show 0 < 1 from by omega) rfl (Nat.le_of_ble_eq_true rfl) dc_H_tryLock_47 rfl (fun I7 p7 => ?_)
      obtain ⟨hI7, p7⟩ := p7
      try simp only [th_l_1] at p7
      exact th_vret C hQ dc_H_tryLock_50 (by decide) (by decide) ⟨_, rfl, rfl, hI7, trivial⟩
  · refine th_aload_n C dc_H_tryLock_20 rfl rfl ?_
    refine tq_getR C dc_H_tryLock_21 cl_0 fd_H_20 rfl (show 0 < 1 from by omega) rfl ?_
    refine th_iload_n C dc_H_tryLock_24 rfl rfl ?_
    refine tq_aaldN C dc_H_tryLock_25 rfl (fun _ => rfl) (show 0 < 1 from by omega) rfl m1 (show n1 < 3 from by omega) (fun _ => rfl) ?_
    refine th_aload_n C dc_H_tryLock_26 rfl rfl ?_
    refine tq_getIe C dc_H_tryLock_27 cl_6 fd_H_176 rfl (show i < 5 from by omega) e2 ?_
    refine th_iconst (v := 1) C dc_H_tryLock_30 th_c_1 ?_
    refine tq_callVv C (c_M_give l hl I n1 x2 ((1 : Int32)) hI (by have := th_l_1; omega)) ok_H_270 cl_16 (show n1 < 3 from by omega) rfl (Nat.le_of_ble_eq_true rfl) dc_H_tryLock_31 rfl (fun I8 p8 => ?_)
    obtain ⟨hI8, p8⟩ := p8
    try simp only [th_l_1] at p8
    refine th_aload_n C dc_H_tryLock_34 rfl rfl ?_
    refine th_aload_n C dc_H_tryLock_35 rfl rfl ?_
    refine th_iload_n C dc_H_tryLock_36 rfl rfl ?_
    refine th_iload C dc_H_tryLock_37 rfl ?_
    refine tq_if_eq (tgt := 46) C dc_H_tryLock_39 (by decide) rfl (fun c9 => ?_) (fun c9 => ?_)
    · refine th_iconst (v := 0) C dc_H_tryLock_46 th_c_0 ?_
      refine tq_callVv C (c_H_write l hl I8 i s ((0 : Int32)) hI8 (by have := th_l_0; omega) (by have := th_l_0; omega)) ok_H_205 cl_0 (show 0 < 1 from by omega) rfl (Nat.le_of_ble_eq_true rfl) dc_H_tryLock_47 rfl (fun I10 p10 => ?_)
      obtain ⟨hI10, p10⟩ := p10
      try simp only [th_l_0] at p10
      exact th_vret C hQ dc_H_tryLock_50 (by decide) (by decide) ⟨_, rfl, rfl, hI10, trivial⟩
    · refine th_iconst (v := 1) C dc_H_tryLock_42 th_c_1 ?_
      refine th_goto (tgt := 47) C dc_H_tryLock_43 (by decide) ?_
      refine tq_callVv C (c_H_write l hl I8 i s ((1 : Int32)) hI8 (by have := th_l_1; omega) (by have := th_l_1; omega)) ok_H_205 cl_0 (show 0 < 1 from by omega) rfl (Nat.le_of_ble_eq_true rfl) dc_H_tryLock_47 rfl (fun I11 p11 => ?_)
      obtain ⟨hI11, p11⟩ := p11
      try simp only [th_l_1] at p11
      exact th_vret C hQ dc_H_tryLock_50 (by decide) (by decide) ⟨_, rfl, rfl, hI11, trivial⟩

set_option maxRecDepth 100000 in
set_option maxHeartbeats 4000000 in
theorem c_H_beginWait (l : Launch) (hl : l.stackTraces = false) {K sl : Int} {Z : th_I} (I : th_I) (i : Nat) (c : Int32) (m : Int32) (hI : th_Inv K sl Z I) (hi : i < 5) (hc : 0 ≤ c.toInt ∧ c.toInt ≤ 2) (hm : 0 ≤ m.toInt ∧ m.toInt ≤ 2) : th_F l yn_H_beginWait cb_H_beginWait 5 (some .int) { frames := 3, cells := 0, slots := 0, locals := 66 } [.inr (some (0, 0)), .inr (some (6, i)), .inl c, .inl m] (th_m I) (th_ri (fun x J => th_Inv K sl Z J ∧ (0 ≤ x.toInt ∧ x.toInt ≤ 7))) := by
  refine th_of hl (by decide +kernel) (Nat.le_of_ble_eq_true rfl) (fun z C hQ hN => ?_)
  show th_G l z 5 0 [(0, .inr (some (0, 0))), (1, .inr (some (6, i))), (2, .inl c), (3, .inl m)] [] (th_m I) 0 0
  have hb := hI.2.2.1
  refine th_aload_n C dc_H_beginWait_0 rfl rfl ?_
  refine tq_getR C dc_H_beginWait_1 cl_0 fd_H_20 rfl (show 0 < 1 from by omega) rfl ?_
  refine th_iload_n C dc_H_beginWait_4 rfl rfl ?_
  obtain ⟨n1, m1⟩ := th_nat (a := m.toInt) (by omega)
  refine tq_aaldN C dc_H_beginWait_5 rfl (fun _ => rfl) (show 0 < 1 from by omega) rfl m1 (show n1 < 3 from by omega) (fun _ => rfl) ?_
  refine th_astore (lv' := [(0, .inr (some (0, 0))), (1, .inr (some (6, i))), (2, .inl c), (3, .inl m), (4, .inr (some (16, n1)))]) C dc_H_beginWait_6 (by decide) rfl ?_
  refine th_aload C dc_H_beginWait_8 rfl ?_
  refine tq_getI C dc_H_beginWait_10 cl_16 fd_H_146 rfl (show n1 < 3 from by omega) (fun x2 e2 => ?_)
  have g2 : x2.toInt = (I 16 n1 1).toInt := by rw [e2]
  refine th_aload_n C dc_H_beginWait_13 rfl rfl ?_
  refine tq_getI C dc_H_beginWait_14 cl_6 fd_H_176 rfl (show i < 5 from by omega) (fun x3 e3 => ?_)
  have g3 : x3.toInt = (I 6 i 0).toInt := by rw [e3]
  have r3 : x3.toInt = (i : Int) ∨ 5 ≤ i := by rw [e3]; exact hI.1 6 i 0
  refine tq_icmp_eq (tgt := 22) C dc_H_beginWait_17 (by decide) rfl rfl (fun c4 => ?_) (fun c4 => ?_)
  · refine th_aload_n C dc_H_beginWait_22 rfl rfl ?_
    refine tq_getI C dc_H_beginWait_23 cl_6 fd_H_125 rfl (show i < 5 from by omega) (fun x5 e5 => ?_)
    have g5 : x5.toInt = (I 6 i 11).toInt := by rw [e5]
    refine tq_if_eq (tgt := 32) C dc_H_beginWait_26 (by decide) rfl (fun c6 => ?_) (fun c6 => ?_)
    · refine th_aload_n C dc_H_beginWait_32 rfl rfl ?_
      refine th_iload_n C dc_H_beginWait_33 rfl rfl ?_
      refine tq_putI C dc_H_beginWait_34 cl_6 fd_H_285 rfl (show i < 5 from by omega) rfl rfl ?_
      refine th_gen (P := fun J => th_Inv K sl Z J ∧ J = th_u I 6 i 13 c) ⟨th_put hI (by decide) (show 0 ≤ c.toInt ∧ c.toInt ≤ 2 from by omega), rfl⟩ (fun I7 hI7 => ?_)
      obtain ⟨hI7, u7⟩ := hI7
      have e8 : x2 = I7 16 n1 1 := by rw [u7, th_u_tag (by decide)]; exact e2
      have g8 : x2.toInt = (I7 16 n1 1).toInt := by rw [← e8]
      have e9 : x3 = I7 6 i 0 := by rw [u7, th_u_slot (by decide)]; exact e3
      have g9 : x3.toInt = (I7 6 i 0).toInt := by rw [← e9]
      have e10 : x5 = I7 6 i 11 := by rw [u7, th_u_slot (by decide)]; exact e5
      have g10 : x5.toInt = (I7 6 i 11).toInt := by rw [← e10]
      have e7 : c = I7 6 i 13 := by rw [u7, th_u_eq]
      have g7 : c.toInt = (I7 6 i 13).toInt := by rw [← e7]
      refine th_aload_n C dc_H_beginWait_37 rfl rfl ?_
      refine th_iload_n C dc_H_beginWait_38 rfl rfl ?_
      refine tq_putI C dc_H_beginWait_39 cl_6 fd_H_288 rfl (show i < 5 from by omega) rfl rfl ?_
      refine th_gen (P := fun J => th_Inv K sl Z J ∧ J = th_u I7 6 i 14 m) ⟨th_put hI7 (by decide) (show 0 ≤ m.toInt ∧ m.toInt ≤ 2 from by omega), rfl⟩ (fun I11 hI11 => ?_)
      obtain ⟨hI11, u11⟩ := hI11
      have e12 : x2 = I11 16 n1 1 := by rw [u11, th_u_tag (by decide)]; exact e8
      have g12 : x2.toInt = (I11 16 n1 1).toInt := by rw [← e12]
      have e13 : x3 = I11 6 i 0 := by rw [u11, th_u_slot (by decide)]; exact e9
      have g13 : x3.toInt = (I11 6 i 0).toInt := by rw [← e13]
      have e14 : x5 = I11 6 i 11 := by rw [u11, th_u_slot (by decide)]; exact e10
      have g14 : x5.toInt = (I11 6 i 11).toInt := by rw [← e14]
      have e15 : c = I11 6 i 13 := by rw [u11, th_u_slot (by decide)]; exact e7
      have g15 : c.toInt = (I11 6 i 13).toInt := by rw [← e15]
      have e11 : m = I11 6 i 14 := by rw [u11, th_u_eq]
      have g11 : m.toInt = (I11 6 i 14).toInt := by rw [← e11]
      refine th_aload_n C dc_H_beginWait_42 rfl rfl ?_
      refine th_aload C dc_H_beginWait_43 rfl ?_
      refine tq_getI C dc_H_beginWait_45 cl_16 fd_H_149 rfl (show n1 < 3 from by omega) (fun x16 e16 => ?_)
      have g16 : x16.toInt = (I11 16 n1 2).toInt := by rw [e16]
      refine tq_putI C dc_H_beginWait_48 cl_6 fd_H_273 rfl (show i < 5 from by omega) rfl rfl ?_
      refine th_gen (P := fun J => th_Inv K sl Z J ∧ J = th_u I11 6 i 15 x16) ⟨th_put hI11 (by decide) trivial, rfl⟩ (fun I17 hI17 => ?_)
      obtain ⟨hI17, u17⟩ := hI17
      have e18 : x2 = I17 16 n1 1 := by rw [u17, th_u_tag (by decide)]; exact e12
      have g18 : x2.toInt = (I17 16 n1 1).toInt := by rw [← e18]
      have e19 : x3 = I17 6 i 0 := by rw [u17, th_u_slot (by decide)]; exact e13
      have g19 : x3.toInt = (I17 6 i 0).toInt := by rw [← e19]
      have e20 : x5 = I17 6 i 11 := by rw [u17, th_u_slot (by decide)]; exact e14
      have g20 : x5.toInt = (I17 6 i 11).toInt := by rw [← e20]
      have e21 : c = I17 6 i 13 := by rw [u17, th_u_slot (by decide)]; exact e15
      have g21 : c.toInt = (I17 6 i 13).toInt := by rw [← e21]
      have e22 : m = I17 6 i 14 := by rw [u17, th_u_slot (by decide)]; exact e11
      have g22 : m.toInt = (I17 6 i 14).toInt := by rw [← e22]
      have e23 : x16 = I17 16 n1 2 := by rw [u17, th_u_tag (by decide)]; exact e16
      have g23 : x16.toInt = (I17 16 n1 2).toInt := by rw [← e23]
      have e17 : x16 = I17 6 i 15 := by rw [u17, th_u_eq]
      have g17 : x16.toInt = (I17 6 i 15).toInt := by rw [← e17]
      refine th_aload_n C dc_H_beginWait_51 rfl rfl ?_
      refine th_iconst (v := 3) C dc_H_beginWait_52 th_c_3 ?_
      refine tq_putI C dc_H_beginWait_53 cl_6 fd_H_106 rfl (show i < 5 from by omega) rfl rfl ?_
      refine th_gen (P := fun J => th_Inv K sl Z J ∧ J = th_u I17 6 i 5 ((3 : Int32))) ⟨th_put hI17 (by decide) trivial, rfl⟩ (fun I24 hI24 => ?_)
      obtain ⟨hI24, u24⟩ := hI24
      have e25 : x2 = I24 16 n1 1 := by rw [u24, th_u_tag (by decide)]; exact e18
      have g25 : x2.toInt = (I24 16 n1 1).toInt := by rw [← e25]
      have e26 : x3 = I24 6 i 0 := by rw [u24, th_u_slot (by decide)]; exact e19
      have g26 : x3.toInt = (I24 6 i 0).toInt := by rw [← e26]
      have e27 : x5 = I24 6 i 11 := by rw [u24, th_u_slot (by decide)]; exact e20
      have g27 : x5.toInt = (I24 6 i 11).toInt := by rw [← e27]
      have e28 : c = I24 6 i 13 := by rw [u24, th_u_slot (by decide)]; exact e21
      have g28 : c.toInt = (I24 6 i 13).toInt := by rw [← e28]
      have e29 : m = I24 6 i 14 := by rw [u24, th_u_slot (by decide)]; exact e22
      have g29 : m.toInt = (I24 6 i 14).toInt := by rw [← e29]
      have e30 : x16 = I24 16 n1 2 := by rw [u24, th_u_tag (by decide)]; exact e23
      have g30 : x16.toInt = (I24 16 n1 2).toInt := by rw [← e30]
      have e31 : x16 = I24 6 i 15 := by rw [u24, th_u_slot (by decide)]; exact e17
      have g31 : x16.toInt = (I24 6 i 15).toInt := by rw [← e31]
      have e24 : (3 : Int32) = I24 6 i 5 := by rw [u24, th_u_eq]
      have g24 : 3 = (I24 6 i 5).toInt := by rw [← e24]; exact th_l_3.symm
      refine th_aload_n C dc_H_beginWait_56 rfl rfl ?_
      refine tq_getR C dc_H_beginWait_57 cl_0 fd_H_27 rfl (show 0 < 1 from by omega) rfl ?_
      refine th_iload_n C dc_H_beginWait_60 rfl rfl ?_
      obtain ⟨n32, m32⟩ := th_nat (a := c.toInt) (by omega)
      refine tq_aaldN C dc_H_beginWait_61 rfl (fun _ => rfl) (show 0 < 1 from by omega) rfl m32 (show n32 < 3 from by omega) (fun _ => rfl) ?_
      refine th_aload_n C dc_H_beginWait_62 rfl rfl ?_
      refine tq_getIe C dc_H_beginWait_63 cl_6 fd_H_176 rfl (show i < 5 from by omega) e26 ?_
      refine tq_callVv C (c_R_append l hl I24 (8 + n32) x3 hI24 (by omega) (by omega)) ok_H_276 cl_14 (show 8 + n32 < 11 from by omega) rfl (Nat.le_of_ble_eq_true rfl) dc_H_beginWait_66 rfl (fun I33 p33 => ?_)
      obtain ⟨hI33, p33⟩ := p33
      refine th_aload_n C dc_H_beginWait_69 rfl rfl ?_
      refine th_aload C dc_H_beginWait_70 rfl ?_
      refine tq_callVv C (c_H_passOn l hl I33 n1 hI33 (by omega)) ok_H_278 cl_0 (show 0 < 1 from by omega) rfl (Nat.le_of_ble_eq_true rfl) dc_H_beginWait_72 rfl (fun I34 p34 => ?_)
      obtain ⟨hI34, p34⟩ := p34
      refine th_iconst (v := 0) C dc_H_beginWait_75 th_c_0 ?_
      exact th_iret C hQ dc_H_beginWait_76 (by decide) (by decide) ⟨_, _, rfl, rfl, hI34, (by have := th_l_0; first | omega | (dsimp only; omega))⟩
    · refine th_bipush (v := 7) C dc_H_beginWait_29 th_b_7 ?_
      exact th_iret C hQ dc_H_beginWait_31 (by decide) (by decide) ⟨_, _, rfl, rfl, hI, (by have := th_l_7; first | omega | (dsimp only; omega))⟩
  · refine th_iconst (v := 3) C dc_H_beginWait_20 th_c_3 ?_
    exact th_iret C hQ dc_H_beginWait_21 (by decide) (by decide) ⟨_, _, rfl, rfl, hI, (by have := th_l_3; first | omega | (dsimp only; omega))⟩

set_option maxRecDepth 100000 in
set_option maxHeartbeats 4000000 in
theorem c_H_tellFirst (l : Launch) (hl : l.stackTraces = false) {K sl : Int} {Z : th_I} (I : th_I) (r : Nat) (hI : th_Inv K sl Z I) (hr : r < 11) : th_F l yn_H_tellFirst cb_H_tellFirst 3 none { frames := 2, cells := 0, slots := 0, locals := 46 } [.inr (some (0, 0)), .inr (some (14, r))] (th_m I) (th_rv (fun J => th_Inv K sl Z J ∧ (True))) := by
  refine th_of hl (by decide +kernel) (Nat.le_of_ble_eq_true rfl) (fun z C hQ hN => ?_)
  show th_G l z 3 0 [(0, .inr (some (0, 0))), (1, .inr (some (14, r)))] [] (th_m I) 0 0
  have hb := hI.2.2.1
  refine th_aload_n C dc_H_tellFirst_0 rfl rfl ?_
  refine tq_callVi C (c_R_takeFirst l hl I r hI (by omega)) ok_H_282 cl_14 (show r < 11 from by omega) rfl (Nat.le_of_ble_eq_true rfl) dc_H_tellFirst_1 rfl (fun x1 I1 p1 => ?_)
  obtain ⟨hI1, p1⟩ := p1
  refine th_istore_n (lv' := [(0, .inr (some (0, 0))), (1, .inr (some (14, r))), (2, .inl x1)]) C dc_H_tellFirst_4 rfl (by decide) rfl ?_
  refine th_iload_n C dc_H_tellFirst_5 rfl rfl ?_
  refine th_iconst (v := -1) C dc_H_tellFirst_6 th_c_m1 ?_
  refine tq_icmp_eq (tgt := 38) C dc_H_tellFirst_7 (by decide) rfl th_l_m1 (fun c2 => ?_) (fun c2 => ?_)
  · exact th_vret C hQ dc_H_tellFirst_38 (by decide) (by decide) ⟨_, rfl, rfl, hI1, trivial⟩
  · refine th_aload_n C dc_H_tellFirst_10 rfl rfl ?_
    refine th_aload_n C dc_H_tellFirst_11 rfl rfl ?_
    refine tq_getR C dc_H_tellFirst_12 cl_0 fd_H_11 rfl (show 0 < 1 from by omega) rfl ?_
    refine th_iload_n C dc_H_tellFirst_15 rfl rfl ?_
    obtain ⟨n3, m3⟩ := th_nat (a := x1.toInt) (by omega)
    refine tq_aaldN C dc_H_tellFirst_16 rfl (fun _ => rfl) (show 0 < 1 from by omega) rfl m3 (show n3 < 5 from by omega) (fun _ => rfl) ?_
    refine th_aload_n C dc_H_tellFirst_17 rfl rfl ?_
    refine tq_getR C dc_H_tellFirst_18 cl_0 fd_H_11 rfl (show 0 < 1 from by omega) rfl ?_
    refine th_iload_n C dc_H_tellFirst_21 rfl rfl ?_
    refine tq_aaldN C dc_H_tellFirst_22 rfl (fun _ => rfl) (show 0 < 1 from by omega) rfl m3 (show n3 < 5 from by omega) (fun _ => rfl) ?_
    refine tq_getI C dc_H_tellFirst_23 cl_6 fd_H_288 rfl (show n3 < 5 from by omega) (fun x4 e4 => ?_)
    have g4 : x4.toInt = (I1 6 n3 14).toInt := by rw [e4]
    have r4 : 0 ≤ x4.toInt ∧ x4.toInt ≤ 2 := by rw [e4]; exact hI1.1 6 n3 14
    refine th_aload_n C dc_H_tellFirst_26 rfl rfl ?_
    refine tq_getR C dc_H_tellFirst_27 cl_0 fd_H_11 rfl (show 0 < 1 from by omega) rfl ?_
    refine th_iload_n C dc_H_tellFirst_30 rfl rfl ?_
    refine tq_aaldN C dc_H_tellFirst_31 rfl (fun _ => rfl) (show 0 < 1 from by omega) rfl m3 (show n3 < 5 from by omega) (fun _ => rfl) ?_
    refine tq_getI C dc_H_tellFirst_32 cl_6 fd_H_273 rfl (show n3 < 5 from by omega) (fun x5 e5 => ?_)
    have g5 : x5.toInt = (I1 6 n3 15).toInt := by rw [e5]
    refine tq_callVv C (c_H_goFor l hl I1 n3 x4 x5 hI1 (by omega) (by omega)) ok_H_216 cl_0 (show 0 < 1 from by omega) rfl (Nat.le_of_ble_eq_true rfl) dc_H_tellFirst_35 rfl (fun I6 p6 => ?_)
    obtain ⟨hI6, p6⟩ := p6
    exact th_vret C hQ dc_H_tellFirst_38 (by decide) (by decide) ⟨_, rfl, rfl, hI6, trivial⟩

set_option maxRecDepth 100000 in
set_option maxHeartbeats 4000000 in
theorem c_H_tellAll (l : Launch) (hl : l.stackTraces = false) {K sl : Int} {Z : th_I} (I : th_I) (r : Nat) (hI : th_Inv K sl Z I) (hr : r < 11) : th_F l yn_H_tellAll cb_H_tellAll 3 none { frames := 3, cells := 0, slots := 0, locals := 68 } [.inr (some (0, 0)), .inr (some (14, r))] (th_m I) (th_rv (fun J => th_Inv K sl Z J ∧ (True))) := by
  refine th_of hl (by decide +kernel) (Nat.le_of_ble_eq_true rfl) (fun z C hQ hN => ?_)
  show th_G l z 3 0 [(0, .inr (some (0, 0))), (1, .inr (some (14, r)))] [] (th_m I) 0 0
  have hb := hI.2.2.1
  refine th_aload_n C dc_H_tellAll_0 rfl rfl ?_
  refine tq_getI C dc_H_tellAll_1 cl_14 fd_H_142 rfl (show r < 11 from by omega) (fun x1 e1 => ?_)
  have g1 : x1.toInt = (I 14 r 1).toInt := by rw [e1]
  have r1 : 0 ≤ x1.toInt ∧ x1.toInt ≤ 5 := by rw [e1]; exact hI.1 14 r 1
  refine th_istore_n (lv' := [(0, .inr (some (0, 0))), (1, .inr (some (14, r))), (2, .inl x1)]) C dc_H_tellAll_4 rfl (by decide) rfl ?_
  have L5 : ∀ (N : Nat) (k : Int32) (I2 : th_I), (th_Inv K sl Z I2) → (k.toInt ≤ 5) → k.toInt.toNat < N → th_G l z 3 5 [(0, .inr (some (0, 0))), (1, .inr (some (14, r))), (2, .inl k)] [] (th_m I2) 0 0 := by
    intro N
    induction N with
    | zero => intro k I2 hI2 h1 hm; exact absurd hm (Nat.not_lt_zero _)
    | succ N ih =>
      intro k I2 hI2 h1 hm
      refine th_iload_n C dc_H_tellAll_5 rfl rfl ?_
      refine tq_if_le (tgt := 20) C dc_H_tellAll_6 (by decide) rfl (fun c3 => ?_) (fun c3 => ?_)
      · exact th_vret C hQ dc_H_tellAll_20 (by decide) (by decide) ⟨_, rfl, rfl, hI2, trivial⟩
      · refine th_aload_n C dc_H_tellAll_9 rfl rfl ?_
        refine th_aload_n C dc_H_tellAll_10 rfl rfl ?_
        refine tq_callVv C (c_H_tellFirst l hl I2 r hI2 (by omega)) ok_H_228 cl_0 (show 0 < 1 from by omega) rfl (Nat.le_of_ble_eq_true rfl) dc_H_tellAll_11 rfl (fun I4 p4 => ?_)
        obtain ⟨hI4, p4⟩ := p4
        refine tq_iinc (lv' := fun rr => [(0, .inr (some (0, 0))), (1, .inr (some (14, r))), (2, .inl rr)]) C dc_H_tellAll_14 rfl (by decide) th_c_m1 rfl th_l_m1 (fun rr => rfl) (fun x5 e5 a5 => ?_)
        refine th_goto (tgt := 5) C dc_H_tellAll_17 (by decide) ?_
        exact ih x5 I4 hI4 (by omega) (by omega)
  exact L5 _ x1 I hI (by omega) (Nat.lt_succ_self _)

set_option maxRecDepth 100000 in
set_option maxHeartbeats 4000000 in
theorem c_H_startOther (l : Launch) (hl : l.stackTraces = false) {K sl : Int} {Z : th_I} (I : th_I) (i : Nat) (hI : th_Inv K sl Z I) (hi : i < 5) : th_F l yn_H_startOther cb_H_startOther 1 (some .int) { frames := 3, cells := 0, slots := 0, locals := 60 } [.inr (some (6, i))] (th_m I) (th_ri (fun x J => th_Inv K sl Z J ∧ (0 ≤ x.toInt ∧ x.toInt ≤ 7))) := by
  refine th_of hl (by decide +kernel) (Nat.le_of_ble_eq_true rfl) (fun z C hQ hN => ?_)
  show th_G l z 1 0 [(0, .inr (some (6, i)))] [] (th_m I) 0 0
  have hb := hI.2.2.1
  refine th_aload_n C dc_H_startOther_0 rfl rfl ?_
  refine tq_callVp C (c_S_isAlive l hl I i (by omega)) ok_H_79 cl_6 (show i < 5 from by omega) rfl (Nat.le_of_ble_eq_true rfl) dc_H_startOther_1 rfl (fun x1 p1 => ?_)
  refine tq_if_eq (tgt := 9) C dc_H_startOther_4 (by decide) rfl (fun c2 => ?_) (fun c2 => ?_)
  · refine th_aload_n C dc_H_startOther_9 rfl rfl ?_
    refine tq_callVv C (c_S_beginAnew l hl I i hI (by omega)) ok_H_83 cl_6 (show i < 5 from by omega) rfl (Nat.le_of_ble_eq_true rfl) dc_H_startOther_10 rfl (fun I3 p3 => ?_)
    obtain ⟨hI3, p3⟩ := p3
    refine th_iconst (v := 0) C dc_H_startOther_13 th_c_0 ?_
    exact th_iret C hQ dc_H_startOther_14 (by decide) (by decide) ⟨_, _, rfl, rfl, hI3, (by have := th_l_0; first | omega | (dsimp only; omega))⟩
  · refine th_iconst (v := 4) C dc_H_startOther_7 th_c_4 ?_
    exact th_iret C hQ dc_H_startOther_8 (by decide) (by decide) ⟨_, _, rfl, rfl, hI, (by have := th_l_4; first | omega | (dsimp only; omega))⟩

set_option maxRecDepth 100000 in
set_option maxHeartbeats 4000000 in
theorem c_H_beginJoin (l : Launch) (hl : l.stackTraces = false) {K sl : Int} {Z : th_I} (I : th_I) (i : Nat) (t : Int32) (s : Int32) (hI : th_Inv K sl Z I) (hi : i < 5) (ht : 0 ≤ t.toInt ∧ t.toInt ≤ 4) (hs : 0 ≤ s.toInt ∧ s.toInt ≤ 3) : th_F l yn_H_beginJoin cb_H_beginJoin 5 (some .int) { frames := 2, cells := 0, slots := 0, locals := 46 } [.inr (some (0, 0)), .inr (some (6, i)), .inl t, .inl s] (th_m I) (th_ri (fun x J => th_Inv K sl Z J ∧ (0 ≤ x.toInt ∧ x.toInt ≤ 7))) := by
  refine th_of hl (by decide +kernel) (Nat.le_of_ble_eq_true rfl) (fun z C hQ hN => ?_)
  show th_G l z 5 0 [(0, .inr (some (0, 0))), (1, .inr (some (6, i))), (2, .inl t), (3, .inl s)] [] (th_m I) 0 0
  have hb := hI.2.2.1
  refine th_aload_n C dc_H_beginJoin_0 rfl rfl ?_
  refine tq_getR C dc_H_beginJoin_1 cl_0 fd_H_11 rfl (show 0 < 1 from by omega) rfl ?_
  refine th_iload_n C dc_H_beginJoin_4 rfl rfl ?_
  obtain ⟨n1, m1⟩ := th_nat (a := t.toInt) (by omega)
  refine tq_aaldN C dc_H_beginJoin_5 rfl (fun _ => rfl) (show 0 < 1 from by omega) rfl m1 (show n1 < 5 from by omega) (fun _ => rfl) ?_
  refine th_astore (lv' := [(0, .inr (some (0, 0))), (1, .inr (some (6, i))), (2, .inl t), (3, .inl s), (4, .inr (some (6, n1)))]) C dc_H_beginJoin_6 (by decide) rfl ?_
  refine th_aload C dc_H_beginJoin_8 rfl ?_
  refine tq_getI C dc_H_beginJoin_10 cl_6 fd_H_106 rfl (show n1 < 5 from by omega) (fun x2 e2 => ?_)
  have g2 : x2.toInt = (I 6 n1 5).toInt := by rw [e2]
  refine th_iconst (v := 5) C dc_H_beginJoin_13 th_c_5 ?_
  refine tq_icmp_ne (tgt := 30) C dc_H_beginJoin_14 (by decide) rfl th_l_5 (fun c3 => ?_) (fun c3 => ?_)
  · refine th_aload C dc_H_beginJoin_30 rfl ?_
    refine tq_getIe C dc_H_beginJoin_32 cl_6 fd_H_106 rfl (show n1 < 5 from by omega) e2 ?_
    refine tq_if_eq (tgt := 46) C dc_H_beginJoin_35 (by decide) rfl (fun c4 => ?_) (fun c4 => ?_)
    · refine th_iconst (v := 5) C dc_H_beginJoin_46 th_c_5 ?_
      exact th_iret C hQ dc_H_beginJoin_47 (by decide) (by decide) ⟨_, _, rfl, rfl, hI, (by have := th_l_5; first | omega | (dsimp only; omega))⟩
    · refine th_iload_n C dc_H_beginJoin_38 rfl rfl ?_
      refine th_aload_n C dc_H_beginJoin_39 rfl rfl ?_
      refine tq_getI C dc_H_beginJoin_40 cl_6 fd_H_176 rfl (show i < 5 from by omega) (fun x5 e5 => ?_)
      have g5 : x5.toInt = (I 6 i 0).toInt := by rw [e5]
      have r5 : x5.toInt = (i : Int) ∨ 5 ≤ i := by rw [e5]; exact hI.1 6 i 0
      refine tq_icmp_ne (tgt := 48) C dc_H_beginJoin_43 (by decide) rfl rfl (fun c6 => ?_) (fun c6 => ?_)
      · refine th_aload_n C dc_H_beginJoin_48 rfl rfl ?_
        refine tq_getI C dc_H_beginJoin_49 cl_6 fd_H_125 rfl (show i < 5 from by omega) (fun x7 e7 => ?_)
        have g7 : x7.toInt = (I 6 i 11).toInt := by rw [e7]
        refine tq_if_eq (tgt := 58) C dc_H_beginJoin_52 (by decide) rfl (fun c8 => ?_) (fun c8 => ?_)
        · refine th_aload_n C dc_H_beginJoin_58 rfl rfl ?_
          refine th_iload_n C dc_H_beginJoin_59 rfl rfl ?_
          refine tq_putI C dc_H_beginJoin_60 cl_6 fd_H_291 rfl (show i < 5 from by omega) rfl rfl ?_
          refine th_gen (P := fun J => th_Inv K sl Z J ∧ J = th_u I 6 i 16 t) ⟨th_put hI (by decide) (show 0 ≤ t.toInt ∧ t.toInt ≤ 4 from by omega), rfl⟩ (fun I9 hI9 => ?_)
          obtain ⟨hI9, u9⟩ := hI9
          have e10 : x2 = I9 6 n1 5 := by rw [u9, th_u_slot (by decide)]; exact e2
          have g10 : x2.toInt = (I9 6 n1 5).toInt := by rw [← e10]
          have e11 : x5 = I9 6 i 0 := by rw [u9, th_u_slot (by decide)]; exact e5
          have g11 : x5.toInt = (I9 6 i 0).toInt := by rw [← e11]
          have e12 : x7 = I9 6 i 11 := by rw [u9, th_u_slot (by decide)]; exact e7
          have g12 : x7.toInt = (I9 6 i 11).toInt := by rw [← e12]
          have e9 : t = I9 6 i 16 := by rw [u9, th_u_eq]
          have g9 : t.toInt = (I9 6 i 16).toInt := by rw [← e9]
          refine th_aload_n C dc_H_beginJoin_63 rfl rfl ?_
          refine th_iload_n C dc_H_beginJoin_64 rfl rfl ?_
          refine tq_putI C dc_H_beginJoin_65 cl_6 fd_H_294 rfl (show i < 5 from by omega) rfl rfl ?_
          refine th_gen (P := fun J => th_Inv K sl Z J ∧ J = th_u I9 6 i 17 s) ⟨th_put hI9 (by decide) (show 0 ≤ s.toInt ∧ s.toInt ≤ 3 from by omega), rfl⟩ (fun I13 hI13 => ?_)
          obtain ⟨hI13, u13⟩ := hI13
          have e14 : x2 = I13 6 n1 5 := by rw [u13, th_u_slot (by decide)]; exact e10
          have g14 : x2.toInt = (I13 6 n1 5).toInt := by rw [← e14]
          have e15 : x5 = I13 6 i 0 := by rw [u13, th_u_slot (by decide)]; exact e11
          have g15 : x5.toInt = (I13 6 i 0).toInt := by rw [← e15]
          have e16 : x7 = I13 6 i 11 := by rw [u13, th_u_slot (by decide)]; exact e12
          have g16 : x7.toInt = (I13 6 i 11).toInt := by rw [← e16]
          have e17 : t = I13 6 i 16 := by rw [u13, th_u_slot (by decide)]; exact e9
          have g17 : t.toInt = (I13 6 i 16).toInt := by rw [← e17]
          have e13 : s = I13 6 i 17 := by rw [u13, th_u_eq]
          have g13 : s.toInt = (I13 6 i 17).toInt := by rw [← e13]
          refine th_aload_n C dc_H_beginJoin_68 rfl rfl ?_
          refine th_iconst (v := 4) C dc_H_beginJoin_69 th_c_4 ?_
          refine tq_putI C dc_H_beginJoin_70 cl_6 fd_H_106 rfl (show i < 5 from by omega) rfl rfl ?_
          refine th_gen (P := fun J => th_Inv K sl Z J ∧ J = th_u I13 6 i 5 ((4 : Int32))) ⟨th_put hI13 (by decide) trivial, rfl⟩ (fun I18 hI18 => ?_)
          obtain ⟨hI18, u18⟩ := hI18
          have e19 : x5 = I18 6 i 0 := by rw [u18, th_u_slot (by decide)]; exact e15
          have g19 : x5.toInt = (I18 6 i 0).toInt := by rw [← e19]
          have e20 : x7 = I18 6 i 11 := by rw [u18, th_u_slot (by decide)]; exact e16
          have g20 : x7.toInt = (I18 6 i 11).toInt := by rw [← e20]
          have e21 : t = I18 6 i 16 := by rw [u18, th_u_slot (by decide)]; exact e17
          have g21 : t.toInt = (I18 6 i 16).toInt := by rw [← e21]
          have e22 : s = I18 6 i 17 := by rw [u18, th_u_slot (by decide)]; exact e13
          have g22 : s.toInt = (I18 6 i 17).toInt := by rw [← e22]
          have e18 : (4 : Int32) = I18 6 i 5 := by rw [u18, th_u_eq]
          have g18 : 4 = (I18 6 i 5).toInt := by rw [← e18]; exact th_l_4.symm
          refine th_aload C dc_H_beginJoin_73 rfl ?_
          refine tq_getR C dc_H_beginJoin_75 cl_6 fd_H_138 rfl (show n1 < 5 from by omega) rfl ?_
          refine th_aload_n C dc_H_beginJoin_78 rfl rfl ?_
          refine tq_getIe C dc_H_beginJoin_79 cl_6 fd_H_176 rfl (show i < 5 from by omega) e19 ?_
          refine tq_callVv C (c_R_append l hl I18 n1 x5 hI18 (by omega) (by omega)) ok_H_276 cl_14 (show n1 < 11 from by omega) rfl (Nat.le_of_ble_eq_true rfl) dc_H_beginJoin_82 rfl (fun I23 p23 => ?_)
          obtain ⟨hI23, p23⟩ := p23
          refine th_iconst (v := 0) C dc_H_beginJoin_85 th_c_0 ?_
          exact th_iret C hQ dc_H_beginJoin_86 (by decide) (by decide) ⟨_, _, rfl, rfl, hI23, (by have := th_l_0; first | omega | (dsimp only; omega))⟩
        · refine th_bipush (v := 7) C dc_H_beginJoin_55 th_b_7 ?_
          exact th_iret C hQ dc_H_beginJoin_57 (by decide) (by decide) ⟨_, _, rfl, rfl, hI, (by have := th_l_7; first | omega | (dsimp only; omega))⟩
      · refine th_iconst (v := 5) C dc_H_beginJoin_46 th_c_5 ?_
        exact th_iret C hQ dc_H_beginJoin_47 (by decide) (by decide) ⟨_, _, rfl, rfl, hI, (by have := th_l_5; first | omega | (dsimp only; omega))⟩
  · refine th_aload_n C dc_H_beginJoin_17 rfl rfl ?_
    refine th_aload_n C dc_H_beginJoin_18 rfl rfl ?_
    refine th_iload_n C dc_H_beginJoin_19 rfl rfl ?_
    refine th_aload C dc_H_beginJoin_20 rfl ?_
    refine tq_getI C dc_H_beginJoin_22 cl_6 fd_H_112 rfl (show n1 < 5 from by omega) (fun x24 e24 => ?_)
    have g24 : x24.toInt = (I 6 n1 7).toInt := by rw [e24]
    refine tq_callVv C (c_H_write l hl I i s x24 hI (by omega) (by omega)) ok_H_205 cl_0 (show 0 < 1 from by omega) rfl (Nat.le_of_ble_eq_true rfl) dc_H_beginJoin_25 rfl (fun I25 p25 => ?_)
    obtain ⟨hI25, p25⟩ := p25
    refine th_iconst (v := 0) C dc_H_beginJoin_28 th_c_0 ?_
    exact th_iret C hQ dc_H_beginJoin_29 (by decide) (by decide) ⟨_, _, rfl, rfl, hI25, (by have := th_l_0; first | omega | (dsimp only; omega))⟩

set_option maxRecDepth 100000 in
set_option maxHeartbeats 4000000 in
theorem c_H_interruptAlive (l : Launch) (hl : l.stackTraces = false) {K sl : Int} {Z : th_I} (I : th_I) (i : Nat) (hI : th_Inv K sl Z I) (hi : i < 5) : th_F l yn_H_interruptAlive cb_H_interruptAlive 2 none { frames := 2, cells := 0, slots := 0, locals := 46 } [.inr (some (0, 0)), .inr (some (6, i))] (th_m I) (th_rv (fun J => th_Inv K sl Z J ∧ (True))) := by
  refine th_of hl (by decide +kernel) (Nat.le_of_ble_eq_true rfl) (fun z C hQ hN => ?_)
  show th_G l z 2 0 [(0, .inr (some (0, 0))), (1, .inr (some (6, i)))] [] (th_m I) 0 0
  have hb := hI.2.2.1
  refine th_aload_n C dc_H_interruptAlive_0 rfl rfl ?_
  refine tq_getI C dc_H_interruptAlive_1 cl_6 fd_H_106 rfl (show i < 5 from by omega) (fun x1 e1 => ?_)
  have g1 : x1.toInt = (I 6 i 5).toInt := by rw [e1]
  refine th_iconst (v := 3) C dc_H_interruptAlive_4 th_c_3 ?_
  refine tq_icmp_ne (tgt := 45) C dc_H_interruptAlive_5 (by decide) rfl th_l_3 (fun c2 => ?_) (fun c2 => ?_)
  · refine th_aload_n C dc_H_interruptAlive_45 rfl rfl ?_
    refine tq_getIe C dc_H_interruptAlive_46 cl_6 fd_H_106 rfl (show i < 5 from by omega) e1 ?_
    refine th_iconst (v := 4) C dc_H_interruptAlive_49 th_c_4 ?_
    refine tq_icmp_ne (tgt := 85) C dc_H_interruptAlive_50 (by decide) rfl th_l_4 (fun c3 => ?_) (fun c3 => ?_)
    · refine th_aload_n C dc_H_interruptAlive_85 rfl rfl ?_
      refine tq_callVp C (c_S_isAlive l hl I i (by omega)) ok_H_79 cl_6 (show i < 5 from by omega) rfl (Nat.le_of_ble_eq_true rfl) dc_H_interruptAlive_86 rfl (fun x4 p4 => ?_)
      refine tq_if_eq (tgt := 97) C dc_H_interruptAlive_89 (by decide) rfl (fun c5 => ?_) (fun c5 => ?_)
      · exact th_vret C hQ dc_H_interruptAlive_97 (by decide) (by decide) ⟨_, rfl, rfl, hI, trivial⟩
      · refine th_aload_n C dc_H_interruptAlive_92 rfl rfl ?_
        refine th_iconst (v := 1) C dc_H_interruptAlive_93 th_c_1 ?_
        refine tq_putZ C dc_H_interruptAlive_94 cl_6 fd_H_125 rfl (show i < 5 from by omega) rfl rfl rfl rfl ?_
        refine th_gen (P := fun J => th_Inv K sl Z J ∧ J = th_u I 6 i 11 ((1 : Int32))) ⟨th_put hI (by decide) trivial, rfl⟩ (fun I6 hI6 => ?_)
        obtain ⟨hI6, u6⟩ := hI6
        have e7 : x1 = I6 6 i 5 := by rw [u6, th_u_slot (by decide)]; exact e1
        have g7 : x1.toInt = (I6 6 i 5).toInt := by rw [← e7]
        have e6 : (1 : Int32) = I6 6 i 11 := by rw [u6, th_u_eq]
        have g6 : 1 = (I6 6 i 11).toInt := by rw [← e6]; exact th_l_1.symm
        exact th_vret C hQ dc_H_interruptAlive_97 (by decide) (by decide) ⟨_, rfl, rfl, hI6, trivial⟩
    · refine th_aload_n C dc_H_interruptAlive_53 rfl rfl ?_
      refine tq_getR C dc_H_interruptAlive_54 cl_0 fd_H_11 rfl (show 0 < 1 from by omega) rfl ?_
      refine th_aload_n C dc_H_interruptAlive_57 rfl rfl ?_
      refine tq_getI C dc_H_interruptAlive_58 cl_6 fd_H_291 rfl (show i < 5 from by omega) (fun x8 e8 => ?_)
      have g8 : x8.toInt = (I 6 i 16).toInt := by rw [e8]
      have r8 : 0 ≤ x8.toInt ∧ x8.toInt ≤ 4 := by rw [e8]; exact hI.1 6 i 16
      obtain ⟨n9, m9⟩ := th_nat (a := x8.toInt) (by omega)
      refine tq_aaldN C dc_H_interruptAlive_61 rfl (fun _ => rfl) (show 0 < 1 from by omega) rfl m9 (show n9 < 5 from by omega) (fun _ => rfl) ?_
      refine tq_getR C dc_H_interruptAlive_62 cl_6 fd_H_138 rfl (show n9 < 5 from by omega) rfl ?_
      refine th_aload_n C dc_H_interruptAlive_65 rfl rfl ?_
      refine tq_getI C dc_H_interruptAlive_66 cl_6 fd_H_176 rfl (show i < 5 from by omega) (fun x10 e10 => ?_)
      have g10 : x10.toInt = (I 6 i 0).toInt := by rw [e10]
      have r10 : x10.toInt = (i : Int) ∨ 5 ≤ i := by rw [e10]; exact hI.1 6 i 0
      refine tq_callVv C (c_R_takeOut l hl I n9 x10 hI (by omega)) ok_H_297 cl_14 (show n9 < 11 from by omega) rfl (Nat.le_of_ble_eq_true rfl) dc_H_interruptAlive_69 rfl (fun I11 p11 => ?_)
      obtain ⟨hI11, p11⟩ := p11
      refine th_aload_n C dc_H_interruptAlive_72 rfl rfl ?_
      refine th_iconst (v := 1) C dc_H_interruptAlive_73 th_c_1 ?_
      refine tq_putZ C dc_H_interruptAlive_74 cl_6 fd_H_179 rfl (show i < 5 from by omega) rfl rfl rfl rfl ?_
      refine th_gen (P := fun J => th_Inv K sl Z J ∧ J = th_u I11 6 i 12 ((1 : Int32))) ⟨th_put hI11 (by decide) trivial, rfl⟩ (fun I12 hI12 => ?_)
      obtain ⟨hI12, u12⟩ := hI12
      have e12 : (1 : Int32) = I12 6 i 12 := by rw [u12, th_u_eq]
      have g12 : 1 = (I12 6 i 12).toInt := by rw [← e12]; exact th_l_1.symm
      refine th_aload_n C dc_H_interruptAlive_77 rfl rfl ?_
      refine th_iconst (v := 1) C dc_H_interruptAlive_78 th_c_1 ?_
      refine tq_putI C dc_H_interruptAlive_79 cl_6 fd_H_106 rfl (show i < 5 from by omega) rfl rfl ?_
      refine th_gen (P := fun J => th_Inv K sl Z J ∧ J = th_u I12 6 i 5 ((1 : Int32))) ⟨th_put hI12 (by decide) trivial, rfl⟩ (fun I13 hI13 => ?_)
      obtain ⟨hI13, u13⟩ := hI13
      have e14 : (1 : Int32) = I13 6 i 12 := by rw [u13, th_u_slot (by decide)]; exact e12
      have g14 : (1 : Int32).toInt = (I13 6 i 12).toInt := by rw [← e14]
      have e13 : (1 : Int32) = I13 6 i 5 := by rw [u13, th_u_eq]
      have g13 : 1 = (I13 6 i 5).toInt := by rw [← e13]; exact th_l_1.symm
      refine th_goto (tgt := 97) C dc_H_interruptAlive_82 (by decide) ?_
      exact th_vret C hQ dc_H_interruptAlive_97 (by decide) (by decide) ⟨_, rfl, rfl, hI13, trivial⟩
  · refine th_aload_n C dc_H_interruptAlive_8 rfl rfl ?_
    refine tq_getR C dc_H_interruptAlive_9 cl_0 fd_H_27 rfl (show 0 < 1 from by omega) rfl ?_
    refine th_aload_n C dc_H_interruptAlive_12 rfl rfl ?_
    refine tq_getI C dc_H_interruptAlive_13 cl_6 fd_H_285 rfl (show i < 5 from by omega) (fun x15 e15 => ?_)
    have g15 : x15.toInt = (I 6 i 13).toInt := by rw [e15]
    have r15 : 0 ≤ x15.toInt ∧ x15.toInt ≤ 2 := by rw [e15]; exact hI.1 6 i 13
    obtain ⟨n16, m16⟩ := th_nat (a := x15.toInt) (by omega)
    refine tq_aaldN C dc_H_interruptAlive_16 rfl (fun _ => rfl) (show 0 < 1 from by omega) rfl m16 (show n16 < 3 from by omega) (fun _ => rfl) ?_
    refine th_aload_n C dc_H_interruptAlive_17 rfl rfl ?_
    refine tq_getI C dc_H_interruptAlive_18 cl_6 fd_H_176 rfl (show i < 5 from by omega) (fun x17 e17 => ?_)
    have g17 : x17.toInt = (I 6 i 0).toInt := by rw [e17]
    have r17 : x17.toInt = (i : Int) ∨ 5 ≤ i := by rw [e17]; exact hI.1 6 i 0
    refine tq_callVv C (c_R_takeOut l hl I (8 + n16) x17 hI (by omega)) ok_H_297 cl_14 (show 8 + n16 < 11 from by omega) rfl (Nat.le_of_ble_eq_true rfl) dc_H_interruptAlive_21 rfl (fun I18 p18 => ?_)
    obtain ⟨hI18, p18⟩ := p18
    refine th_aload_n C dc_H_interruptAlive_24 rfl rfl ?_
    refine th_iconst (v := 1) C dc_H_interruptAlive_25 th_c_1 ?_
    refine tq_putZ C dc_H_interruptAlive_26 cl_6 fd_H_179 rfl (show i < 5 from by omega) rfl rfl rfl rfl ?_
    refine th_gen (P := fun J => th_Inv K sl Z J ∧ J = th_u I18 6 i 12 ((1 : Int32))) ⟨th_put hI18 (by decide) trivial, rfl⟩ (fun I19 hI19 => ?_)
    obtain ⟨hI19, u19⟩ := hI19
    have e19 : (1 : Int32) = I19 6 i 12 := by rw [u19, th_u_eq]
    have g19 : 1 = (I19 6 i 12).toInt := by rw [← e19]; exact th_l_1.symm
    refine th_aload_n C dc_H_interruptAlive_29 rfl rfl ?_
    refine th_aload_n C dc_H_interruptAlive_30 rfl rfl ?_
    refine th_aload_n C dc_H_interruptAlive_31 rfl rfl ?_
    refine tq_getI C dc_H_interruptAlive_32 cl_6 fd_H_288 rfl (show i < 5 from by omega) (fun x20 e20 => ?_)
    have g20 : x20.toInt = (I19 6 i 14).toInt := by rw [e20]
    have r20 : 0 ≤ x20.toInt ∧ x20.toInt ≤ 2 := by rw [e20]; exact hI19.1 6 i 14
    refine th_aload_n C dc_H_interruptAlive_35 rfl rfl ?_
    refine tq_getI C dc_H_interruptAlive_36 cl_6 fd_H_273 rfl (show i < 5 from by omega) (fun x21 e21 => ?_)
    have g21 : x21.toInt = (I19 6 i 15).toInt := by rw [e21]
    refine tq_callVv C (c_H_goFor l hl I19 i x20 x21 hI19 (by omega) (by omega)) ok_H_216 cl_0 (show 0 < 1 from by omega) rfl (Nat.le_of_ble_eq_true rfl) dc_H_interruptAlive_39 rfl (fun I22 p22 => ?_)
    obtain ⟨hI22, p22⟩ := p22
    refine th_goto (tgt := 97) C dc_H_interruptAlive_42 (by decide) ?_
    exact th_vret C hQ dc_H_interruptAlive_97 (by decide) (by decide) ⟨_, rfl, rfl, hI22, trivial⟩
end
section
set_option maxRecDepth 100000 in
set_option maxHeartbeats 4000000 in
theorem c_H_runHooks (l : Launch) (hl : l.stackTraces = false) {K sl : Int} {Z : th_I} (I : th_I) (i : Nat) (hI : th_Inv K sl Z I) (hi : i < 5) : th_F l yn_H_runHooks cb_H_runHooks 5 none { frames := 2, cells := 0, slots := 0, locals := 46 } [.inr (some (0, 0)), .inr (some (6, i))] (th_m I) (th_rv (fun J => th_Inv K sl Z J ∧ (True))) := by
  refine th_of hl (by decide +kernel) (Nat.le_of_ble_eq_true rfl) (fun z C hQ hN => ?_)
  show th_G l z 5 0 [(0, .inr (some (0, 0))), (1, .inr (some (6, i)))] [] (th_m I) 0 0
  have hb := hI.2.2.1
  have hlp := th_lp_le (2 * i + 1)
  refine th_aload_n C dc_H_runHooks_0 rfl rfl ?_
  refine tq_getR C dc_H_runHooks_1 cl_6 fd_H_122 rfl (show i < 5 from by omega) rfl ?_
  refine th_astore_n (lv' := [(0, .inr (some (0, 0))), (1, .inr (some (6, i))), (2, .inr (some (11, 2 * i + 1)))]) C dc_H_runHooks_4 rfl (by decide) rfl ?_
  refine th_aload_n C dc_H_runHooks_5 rfl rfl ?_
  refine tq_getI C dc_H_runHooks_6 cl_11 fd_H_119 rfl (show 2 * i + 1 < 10 from by omega) (fun x1 e1 => ?_)
  have g1 : x1.toInt = (I 11 (2 * i + 1) 2).toInt := by rw [e1]
  have r1 : 0 ≤ x1.toInt ∧ x1.toInt ≤ (th_lp (2 * i + 1) : Int) := by rw [e1]; exact hI.1 11 (2 * i + 1) 2
  refine th_iconst (v := 1) C dc_H_runHooks_9 th_c_1 ?_
  refine tq_isub C dc_H_runHooks_10 rfl th_l_1 (fun x2 e2 a2 => ?_)
  refine th_istore_n (lv' := [(0, .inr (some (0, 0))), (1, .inr (some (6, i))), (2, .inr (some (11, 2 * i + 1))), (3, .inl x2)]) C dc_H_runHooks_11 rfl (by decide) rfl ?_
  have L12 : ∀ (N : Nat) (k : Int32) (I3 : th_I), (th_Inv K sl Z I3) → (-1 ≤ k.toInt ∧ k.toInt < (th_lp (2 * i + 1) : Int) ∧ k.toInt ≤ 12) → (k.toInt + 1).toNat < N → th_G l z 5 12 [(0, .inr (some (0, 0))), (1, .inr (some (6, i))), (2, .inr (some (11, 2 * i + 1))), (3, .inl k)] [] (th_m I3) 0 0 := by
    intro N
    induction N with
    | zero => intro k I3 hI3 h1 hm; exact absurd hm (Nat.not_lt_zero _)
    | succ N ih =>
      intro k I3 hI3 h1 hm
      refine th_iload_n C dc_H_runHooks_12 rfl rfl ?_
      refine tq_if_lt (tgt := 51) C dc_H_runHooks_13 (by decide) rfl (fun c4 => ?_) (fun c4 => ?_)
      · exact th_vret C hQ dc_H_runHooks_51 (by decide) (by decide) ⟨_, rfl, rfl, hI3, trivial⟩
      · refine th_aload_n C dc_H_runHooks_16 rfl rfl ?_
        refine tq_getR C dc_H_runHooks_17 cl_11 fd_H_310 rfl (show 2 * i + 1 < 10 from by omega) rfl ?_
        refine th_iload_n C dc_H_runHooks_20 rfl rfl ?_
        obtain ⟨n6, m6⟩ := th_nat (a := k.toInt) (by omega)
        refine tq_ialdN C dc_H_runHooks_21 rfl (fun _ => rfl) (show 2 * i + 1 < 10 from by omega) rfl m6 (show n6 < th_lp (2 * i + 1) from by omega) (fun x5 e5 => ?_)
        have g5 : x5.toInt = (I3 12 (2 * i + 1) n6).toInt := by rw [e5]
        have r5 : 0 ≤ x5.toInt ∧ x5.toInt ≤ 3 := by rw [e5]; exact hI3.1 12 (2 * i + 1) n6
        refine th_istore (lv' := [(0, .inr (some (0, 0))), (1, .inr (some (6, i))), (2, .inr (some (11, 2 * i + 1))), (3, .inl k), (4, .inl x5)]) C dc_H_runHooks_22 (by decide) rfl ?_
        refine th_aload_n C dc_H_runHooks_24 rfl rfl ?_
        refine th_aload_n C dc_H_runHooks_25 rfl rfl ?_
        refine th_iload C dc_H_runHooks_26 rfl ?_
        refine th_aload_n C dc_H_runHooks_28 rfl rfl ?_
        refine th_aload_n C dc_H_runHooks_29 rfl rfl ?_
        refine th_iload C dc_H_runHooks_30 rfl ?_
        refine tq_callVp C (c_H_read l hl I3 i x5 hI3 (by omega) (by omega)) ok_H_102 cl_0 (show 0 < 1 from by omega) rfl (Nat.le_of_ble_eq_true rfl) dc_H_runHooks_32 rfl (fun x7 p7 => ?_)
        refine th_aload_n C dc_H_runHooks_35 rfl rfl ?_
        refine tq_getR C dc_H_runHooks_36 cl_11 fd_H_255 rfl (show 2 * i + 1 < 10 from by omega) rfl ?_
        refine th_iload_n C dc_H_runHooks_39 rfl rfl ?_
        refine tq_ialdN C dc_H_runHooks_40 rfl (fun _ => rfl) (show 2 * i + 1 < 10 from by omega) rfl m6 (show n6 < th_lp (2 * i + 1) from by omega) (fun x8 e8 => ?_)
        have g8 : x8.toInt = (I3 13 (2 * i + 1) n6).toInt := by rw [e8]
        refine tq_iadd C dc_H_runHooks_41 rfl rfl (fun x9 e9 a9 => ?_)
        refine tq_callVv C (c_H_write l hl I3 i x5 x9 hI3 (by omega) (by omega)) ok_H_205 cl_0 (show 0 < 1 from by omega) rfl (Nat.le_of_ble_eq_true rfl) dc_H_runHooks_42 rfl (fun I10 p10 => ?_)
        obtain ⟨hI10, p10⟩ := p10
        refine tq_iinc (lv' := fun rr => [(0, .inr (some (0, 0))), (1, .inr (some (6, i))), (2, .inr (some (11, 2 * i + 1))), (3, .inl rr), (4, .inl x5)]) C dc_H_runHooks_45 rfl (by decide) th_c_m1 rfl th_l_m1 (fun rr => rfl) (fun x11 e11 a11 => ?_)
        refine th_goto (tgt := 12) C dc_H_runHooks_48 (by decide) ?_
        refine th_sub C (lv' := [(0, .inr (some (0, 0))), (1, .inr (some (6, i))), (2, .inr (some (11, 2 * i + 1))), (3, .inl x11)]) (fun q hq => by simp at hq ⊢; rcases hq with rfl | rfl | rfl | rfl <;> simp) ?_
        exact ih x11 I10 hI10 (by omega) (by omega)
  exact L12 _ x2 I hI (by omega) (Nat.lt_succ_self _)

set_option maxRecDepth 100000 in
set_option maxHeartbeats 4000000 in
theorem c_H_wakeJoiners (l : Launch) (hl : l.stackTraces = false) {K sl : Int} {Z : th_I} (I : th_I) (i : Nat) (hI : th_Inv K sl Z I) (hi : i < 5) : th_F l yn_H_wakeJoiners cb_H_wakeJoiners 4 none { frames := 2, cells := 0, slots := 0, locals := 46 } [.inr (some (0, 0)), .inr (some (6, i))] (th_m I) (th_rv (fun J => th_Inv K sl Z J ∧ (True))) := by
  refine th_of hl (by decide +kernel) (Nat.le_of_ble_eq_true rfl) (fun z C hQ hN => ?_)
  show th_G l z 4 0 [(0, .inr (some (0, 0))), (1, .inr (some (6, i)))] [] (th_m I) 0 0
  have hb := hI.2.2.1
  refine th_aload_n C dc_H_wakeJoiners_0 rfl rfl ?_
  refine tq_getR C dc_H_wakeJoiners_1 cl_6 fd_H_138 rfl (show i < 5 from by omega) rfl ?_
  refine tq_getI C dc_H_wakeJoiners_4 cl_14 fd_H_142 rfl (show i < 11 from by omega) (fun x1 e1 => ?_)
  have g1 : x1.toInt = (I 14 i 1).toInt := by rw [e1]
  have r1 : 0 ≤ x1.toInt ∧ x1.toInt ≤ 5 := by rw [e1]; exact hI.1 14 i 1
  refine th_istore_n (lv' := [(0, .inr (some (0, 0))), (1, .inr (some (6, i))), (2, .inl x1)]) C dc_H_wakeJoiners_7 rfl (by decide) rfl ?_
  have L8 : ∀ (N : Nat) (k : Int32) (I2 : th_I), (th_Inv K sl Z I2) → (k.toInt ≤ 5) → k.toInt.toNat < N → th_G l z 4 8 [(0, .inr (some (0, 0))), (1, .inr (some (6, i))), (2, .inl k)] [] (th_m I2) 0 0 := by
    intro N
    induction N with
    | zero => intro k I2 hI2 h1 hm; exact absurd hm (Nat.not_lt_zero _)
    | succ N ih =>
      intro k I2 hI2 h1 hm
      refine th_iload_n C dc_H_wakeJoiners_8 rfl rfl ?_
      refine tq_if_le (tgt := 64) C dc_H_wakeJoiners_9 (by decide) rfl (fun c3 => ?_) (fun c3 => ?_)
      · exact th_vret C hQ dc_H_wakeJoiners_64 (by decide) (by decide) ⟨_, rfl, rfl, hI2, trivial⟩
      · refine th_aload_n C dc_H_wakeJoiners_12 rfl rfl ?_
        refine tq_getR C dc_H_wakeJoiners_13 cl_6 fd_H_138 rfl (show i < 5 from by omega) rfl ?_
        refine tq_callVi C (c_R_takeFirst l hl I2 i hI2 (by omega)) ok_H_282 cl_14 (show i < 11 from by omega) rfl (Nat.le_of_ble_eq_true rfl) dc_H_wakeJoiners_16 rfl (fun x4 I4 p4 => ?_)
        obtain ⟨hI4, p4⟩ := p4
        refine th_istore_n (lv' := [(0, .inr (some (0, 0))), (1, .inr (some (6, i))), (2, .inl k), (3, .inl x4)]) C dc_H_wakeJoiners_19 rfl (by decide) rfl ?_
        refine th_iload_n C dc_H_wakeJoiners_20 rfl rfl ?_
        refine th_iconst (v := -1) C dc_H_wakeJoiners_21 th_c_m1 ?_
        refine tq_icmp_eq (tgt := 58) C dc_H_wakeJoiners_22 (by decide) rfl th_l_m1 (fun c5 => ?_) (fun c5 => ?_)
        · refine tq_iinc (lv' := fun rr => [(0, .inr (some (0, 0))), (1, .inr (some (6, i))), (2, .inl rr), (3, .inl x4)]) C dc_H_wakeJoiners_58 rfl (by decide) th_c_m1 rfl th_l_m1 (fun rr => rfl) (fun x6 e6 a6 => ?_)
          refine th_goto (tgt := 8) C dc_H_wakeJoiners_61 (by decide) ?_
          refine th_sub C (lv' := [(0, .inr (some (0, 0))), (1, .inr (some (6, i))), (2, .inl x6)]) (fun q hq => by simp at hq ⊢; rcases hq with rfl | rfl | rfl <;> simp) ?_
          exact ih x6 I4 hI4 (by omega) (by omega)
        · refine th_aload_n C dc_H_wakeJoiners_25 rfl rfl ?_
          refine th_aload_n C dc_H_wakeJoiners_26 rfl rfl ?_
          refine tq_getR C dc_H_wakeJoiners_27 cl_0 fd_H_11 rfl (show 0 < 1 from by omega) rfl ?_
          refine th_iload_n C dc_H_wakeJoiners_30 rfl rfl ?_
          obtain ⟨n7, m7⟩ := th_nat (a := x4.toInt) (by omega)
          refine tq_aaldN C dc_H_wakeJoiners_31 rfl (fun _ => rfl) (show 0 < 1 from by omega) rfl m7 (show n7 < 5 from by omega) (fun _ => rfl) ?_
          refine th_aload_n C dc_H_wakeJoiners_32 rfl rfl ?_
          refine tq_getR C dc_H_wakeJoiners_33 cl_0 fd_H_11 rfl (show 0 < 1 from by omega) rfl ?_
          refine th_iload_n C dc_H_wakeJoiners_36 rfl rfl ?_
          refine tq_aaldN C dc_H_wakeJoiners_37 rfl (fun _ => rfl) (show 0 < 1 from by omega) rfl m7 (show n7 < 5 from by omega) (fun _ => rfl) ?_
          refine tq_getI C dc_H_wakeJoiners_38 cl_6 fd_H_294 rfl (show n7 < 5 from by omega) (fun x8 e8 => ?_)
          have g8 : x8.toInt = (I4 6 n7 17).toInt := by rw [e8]
          have r8 : 0 ≤ x8.toInt ∧ x8.toInt ≤ 3 := by rw [e8]; exact hI4.1 6 n7 17
          refine th_aload_n C dc_H_wakeJoiners_41 rfl rfl ?_
          refine tq_getI C dc_H_wakeJoiners_42 cl_6 fd_H_112 rfl (show i < 5 from by omega) (fun x9 e9 => ?_)
          have g9 : x9.toInt = (I4 6 i 7).toInt := by rw [e9]
          refine tq_callVv C (c_H_write l hl I4 n7 x8 x9 hI4 (by omega) (by omega)) ok_H_205 cl_0 (show 0 < 1 from by omega) rfl (Nat.le_of_ble_eq_true rfl) dc_H_wakeJoiners_45 rfl (fun I10 p10 => ?_)
          obtain ⟨hI10, p10⟩ := p10
          refine th_aload_n C dc_H_wakeJoiners_48 rfl rfl ?_
          refine tq_getR C dc_H_wakeJoiners_49 cl_0 fd_H_11 rfl (show 0 < 1 from by omega) rfl ?_
          refine th_iload_n C dc_H_wakeJoiners_52 rfl rfl ?_
          refine tq_aaldN C dc_H_wakeJoiners_53 rfl (fun _ => rfl) (show 0 < 1 from by omega) rfl m7 (show n7 < 5 from by omega) (fun _ => rfl) ?_
          refine th_iconst (v := 1) C dc_H_wakeJoiners_54 th_c_1 ?_
          refine tq_putI C dc_H_wakeJoiners_55 cl_6 fd_H_106 rfl (show n7 < 5 from by omega) rfl rfl ?_
          refine th_gen (P := fun J => th_Inv K sl Z J ∧ J = th_u I10 6 n7 5 ((1 : Int32))) ⟨th_put hI10 (by decide) trivial, rfl⟩ (fun I11 hI11 => ?_)
          obtain ⟨hI11, u11⟩ := hI11
          have e11 : (1 : Int32) = I11 6 n7 5 := by rw [u11, th_u_eq]
          have g11 : 1 = (I11 6 n7 5).toInt := by rw [← e11]; exact th_l_1.symm
          refine tq_iinc (lv' := fun rr => [(0, .inr (some (0, 0))), (1, .inr (some (6, i))), (2, .inl rr), (3, .inl x4)]) C dc_H_wakeJoiners_58 rfl (by decide) th_c_m1 rfl th_l_m1 (fun rr => rfl) (fun x12 e12 a12 => ?_)
          refine th_goto (tgt := 8) C dc_H_wakeJoiners_61 (by decide) ?_
          refine th_sub C (lv' := [(0, .inr (some (0, 0))), (1, .inr (some (6, i))), (2, .inl x12)]) (fun q hq => by simp at hq ⊢; rcases hq with rfl | rfl | rfl <;> simp) ?_
          exact ih x12 I11 hI11 (by omega) (by omega)
  exact L8 _ x1 I hI (by omega) (Nat.lt_succ_self _)

set_option maxRecDepth 100000 in
set_option maxHeartbeats 4000000 in
theorem c_H_finish (l : Launch) (hl : l.stackTraces = false) {K sl : Int} {Z : th_I} (I : th_I) (i : Nat) (v : Int32) (hI : th_Inv K sl Z I) (hi : i < 5) : th_F l yn_H_finish cb_H_finish 4 none { frames := 3, cells := 0, slots := 0, locals := 70 } [.inr (some (0, 0)), .inr (some (6, i)), .inl v] (th_m I) (th_rv (fun J => th_Inv K sl Z J ∧ (True))) := by
  refine th_of hl (by decide +kernel) (Nat.le_of_ble_eq_true rfl) (fun z C hQ hN => ?_)
  show th_G l z 4 0 [(0, .inr (some (0, 0))), (1, .inr (some (6, i))), (2, .inl v)] [] (th_m I) 0 0
  have hb := hI.2.2.1
  refine th_aload_n C dc_H_finish_0 rfl rfl ?_
  refine th_aload_n C dc_H_finish_1 rfl rfl ?_
  refine tq_callVv C (c_H_runHooks l hl I i hI (by omega)) ok_H_301 cl_0 (show 0 < 1 from by omega) rfl (Nat.le_of_ble_eq_true rfl) dc_H_finish_2 rfl (fun I1 p1 => ?_)
  obtain ⟨hI1, p1⟩ := p1
  refine th_aload_n C dc_H_finish_5 rfl rfl ?_
  refine tq_callVv C (c_S_forgetAll l hl I1 i hI1 (by omega)) ok_H_304 cl_6 (show i < 5 from by omega) rfl (Nat.le_of_ble_eq_true rfl) dc_H_finish_6 rfl (fun I2 p2 => ?_)
  obtain ⟨hI2, p2⟩ := p2
  refine th_aload_n C dc_H_finish_9 rfl rfl ?_
  refine th_iload_n C dc_H_finish_10 rfl rfl ?_
  refine tq_putI C dc_H_finish_11 cl_6 fd_H_112 rfl (show i < 5 from by omega) rfl rfl ?_
  refine th_gen (P := fun J => th_Inv K sl Z J ∧ J = th_u I2 6 i 7 v) ⟨th_put hI2 (by decide) trivial, rfl⟩ (fun I3 hI3 => ?_)
  obtain ⟨hI3, u3⟩ := hI3
  have e3 : v = I3 6 i 7 := by rw [u3, th_u_eq]
  have g3 : v.toInt = (I3 6 i 7).toInt := by rw [← e3]
  refine th_aload_n C dc_H_finish_14 rfl rfl ?_
  refine th_iconst (v := 5) C dc_H_finish_15 th_c_5 ?_
  refine tq_putI C dc_H_finish_16 cl_6 fd_H_106 rfl (show i < 5 from by omega) rfl rfl ?_
  refine th_gen (P := fun J => th_Inv K sl Z J ∧ J = th_u I3 6 i 5 ((5 : Int32))) ⟨th_put hI3 (by decide) trivial, rfl⟩ (fun I4 hI4 => ?_)
  obtain ⟨hI4, u4⟩ := hI4
  have e5 : v = I4 6 i 7 := by rw [u4, th_u_slot (by decide)]; exact e3
  have g5 : v.toInt = (I4 6 i 7).toInt := by rw [← e5]
  have e4 : (5 : Int32) = I4 6 i 5 := by rw [u4, th_u_eq]
  have g4 : 5 = (I4 6 i 5).toInt := by rw [← e4]; exact th_l_5.symm
  refine th_aload_n C dc_H_finish_19 rfl rfl ?_
  refine th_dup C dc_H_finish_20 ?_
  refine tq_getI C dc_H_finish_21 cl_0 fd_H_170 rfl (show 0 < 1 from by omega) (fun x6 e6 => ?_)
  have g6 : x6.toInt = (I4 0 0 11).toInt := by rw [e6]
  refine th_iconst (v := 1) C dc_H_finish_24 th_c_1 ?_
  refine tq_iadd C dc_H_finish_25 rfl th_l_1 (fun x7 e7 a7 => ?_)
  refine tq_putI C dc_H_finish_26 cl_0 fd_H_170 rfl (show 0 < 1 from by omega) rfl rfl ?_
  refine th_gen (P := fun J => th_Inv K sl Z J ∧ J = th_u I4 0 0 11 x7) ⟨th_put hI4 (by decide) trivial, rfl⟩ (fun I8 hI8 => ?_)
  obtain ⟨hI8, u8⟩ := hI8
  have e9 : v = I8 6 i 7 := by rw [u8, th_u_tag (by decide)]; exact e5
  have g9 : v.toInt = (I8 6 i 7).toInt := by rw [← e9]
  have e10 : (5 : Int32) = I8 6 i 5 := by rw [u8, th_u_tag (by decide)]; exact e4
  have g10 : (5 : Int32).toInt = (I8 6 i 5).toInt := by rw [← e10]
  have e8 : x7 = I8 0 0 11 := by rw [u8, th_u_eq]
  have g8 : x7.toInt = (I8 0 0 11).toInt := by rw [← e8]
  refine th_iconst (v := 0) C dc_H_finish_29 th_c_0 ?_
  refine th_istore_n (lv' := [(0, .inr (some (0, 0))), (1, .inr (some (6, i))), (2, .inl v), (3, .inl ((0 : Int32)))]) C dc_H_finish_30 rfl (by decide) rfl ?_
  have L31 : ∀ (N : Nat) (k : Int32) (I11 : th_I), (th_Inv K sl Z I11) → (0 ≤ k.toInt ∧ k.toInt ≤ 3) → (3 - k.toInt).toNat < N → th_G l z 4 31 [(0, .inr (some (0, 0))), (1, .inr (some (6, i))), (2, .inl v), (3, .inl k)] [] (th_m I11) 0 0 := by
    intro N
    induction N with
    | zero => intro k I11 hI11 h1 hm; exact absurd hm (Nat.not_lt_zero _)
    | succ N ih =>
      intro k I11 hI11 h1 hm
      refine th_iload_n C dc_H_finish_31 rfl rfl ?_
      refine th_iconst (v := 3) C dc_H_finish_32 th_c_3 ?_
      refine tq_icmp_ge (tgt := 68) C dc_H_finish_33 (by decide) rfl th_l_3 (fun c12 => ?_) (fun c12 => ?_)
      · refine th_aload_n C dc_H_finish_68 rfl rfl ?_
        refine th_aload_n C dc_H_finish_69 rfl rfl ?_
        refine tq_callVv C (c_H_wakeJoiners l hl I11 i hI11 (by omega)) ok_H_307 cl_0 (show 0 < 1 from by omega) rfl (Nat.le_of_ble_eq_true rfl) dc_H_finish_70 rfl (fun I13 p13 => ?_)
        obtain ⟨hI13, p13⟩ := p13
        exact th_vret C hQ dc_H_finish_73 (by decide) (by decide) ⟨_, rfl, rfl, hI13, trivial⟩
      · refine th_aload_n C dc_H_finish_36 rfl rfl ?_
        refine tq_getR C dc_H_finish_37 cl_0 fd_H_20 rfl (show 0 < 1 from by omega) rfl ?_
        refine th_iload_n C dc_H_finish_40 rfl rfl ?_
        obtain ⟨n14, m14⟩ := th_nat (a := k.toInt) (by omega)
        refine tq_aaldN C dc_H_finish_41 rfl (fun _ => rfl) (show 0 < 1 from by omega) rfl m14 (show n14 < 3 from by omega) (fun _ => rfl) ?_
        refine tq_getI C dc_H_finish_42 cl_16 fd_H_146 rfl (show n14 < 3 from by omega) (fun x15 e15 => ?_)
        have g15 : x15.toInt = (I11 16 n14 1).toInt := by rw [e15]
        refine th_aload_n C dc_H_finish_45 rfl rfl ?_
        refine tq_getI C dc_H_finish_46 cl_6 fd_H_176 rfl (show i < 5 from by omega) (fun x16 e16 => ?_)
        have g16 : x16.toInt = (I11 6 i 0).toInt := by rw [e16]
        have r16 : x16.toInt = (i : Int) ∨ 5 ≤ i := by rw [e16]; exact hI11.1 6 i 0
        refine tq_icmp_ne (tgt := 62) C dc_H_finish_49 (by decide) rfl rfl (fun c17 => ?_) (fun c17 => ?_)
        · refine tq_iinc (lv' := fun rr => [(0, .inr (some (0, 0))), (1, .inr (some (6, i))), (2, .inl v), (3, .inl rr)]) C dc_H_finish_62 rfl (by decide) th_c_1 rfl th_l_1 (fun rr => rfl) (fun x18 e18 a18 => ?_)
          refine th_goto (tgt := 31) C dc_H_finish_65 (by decide) ?_
          exact ih x18 I11 hI11 (by omega) (by omega)
        · refine th_aload_n C dc_H_finish_52 rfl rfl ?_
          refine th_aload_n C dc_H_finish_53 rfl rfl ?_
          refine tq_getR C dc_H_finish_54 cl_0 fd_H_20 rfl (show 0 < 1 from by omega) rfl ?_
          refine th_iload_n C dc_H_finish_57 rfl rfl ?_
          refine tq_aaldN C dc_H_finish_58 rfl (fun _ => rfl) (show 0 < 1 from by omega) rfl m14 (show n14 < 3 from by omega) (fun _ => rfl) ?_
          refine tq_callVv C (c_H_passOn l hl I11 n14 hI11 (by omega)) ok_H_278 cl_0 (show 0 < 1 from by omega) rfl (Nat.le_of_ble_eq_true rfl) dc_H_finish_59 rfl (fun I19 p19 => ?_)
          obtain ⟨hI19, p19⟩ := p19
          refine tq_iinc (lv' := fun rr => [(0, .inr (some (0, 0))), (1, .inr (some (6, i))), (2, .inl v), (3, .inl rr)]) C dc_H_finish_62 rfl (by decide) th_c_1 rfl th_l_1 (fun rr => rfl) (fun x20 e20 a20 => ?_)
          refine th_goto (tgt := 31) C dc_H_finish_65 (by decide) ?_
          exact ih x20 I19 hI19 (by omega) (by omega)
  exact L31 _ ((0 : Int32)) I8 hI8 (by have := th_l_0; omega) (Nat.lt_succ_self _)

set_option maxRecDepth 100000 in
set_option maxHeartbeats 4000000 in
theorem c_H_raise (l : Launch) (hl : l.stackTraces = false) {K sl : Int} {Z : th_I} (I : th_I) (i : Nat) (e : Int32) (hI : th_Inv K sl Z I) (hi : i < 5) : th_F l yn_H_raise cb_H_raise 3 none { frames := 4, cells := 0, slots := 0, locals := 93 } [.inr (some (0, 0)), .inr (some (6, i)), .inl e] (th_m I) (th_rv (fun J => th_Inv K sl Z J ∧ (True))) := by
  refine th_of hl (by decide +kernel) (Nat.le_of_ble_eq_true rfl) (fun z C hQ hN => ?_)
  show th_G l z 3 0 [(0, .inr (some (0, 0))), (1, .inr (some (6, i))), (2, .inl e)] [] (th_m I) 0 0
  have hb := hI.2.2.1
  refine th_aload_n C dc_H_raise_0 rfl rfl ?_
  refine th_dup C dc_H_raise_1 ?_
  refine tq_getI C dc_H_raise_2 cl_0 fd_H_167 rfl (show 0 < 1 from by omega) (fun x1 e1 => ?_)
  have g1 : x1.toInt = (I 0 0 10).toInt := by rw [e1]
  refine th_iconst (v := 1) C dc_H_raise_5 th_c_1 ?_
  refine tq_iadd C dc_H_raise_6 rfl th_l_1 (fun x2 e2 a2 => ?_)
  refine tq_putI C dc_H_raise_7 cl_0 fd_H_167 rfl (show 0 < 1 from by omega) rfl rfl ?_
  refine th_gen (P := fun J => th_Inv K sl Z J ∧ J = th_u I 0 0 10 x2) ⟨th_put hI (by decide) trivial, rfl⟩ (fun I3 hI3 => ?_)
  obtain ⟨hI3, u3⟩ := hI3
  have e3 : x2 = I3 0 0 10 := by rw [u3, th_u_eq]
  have g3 : x2.toInt = (I3 0 0 10).toInt := by rw [← e3]
  refine th_iload_n C dc_H_raise_10 rfl rfl ?_
  refine th_bipush (v := 7) C dc_H_raise_11 th_b_7 ?_
  refine tq_icmp_ne (tgt := 20) C dc_H_raise_13 (by decide) rfl th_l_7 (fun c4 => ?_) (fun c4 => ?_)
  · refine th_aload_n C dc_H_raise_20 rfl rfl ?_
    refine tq_getI C dc_H_raise_21 cl_6 fd_H_129 rfl (show i < 5 from by omega) (fun x5 e5 => ?_)
    have g5 : x5.toInt = (I3 6 i 8).toInt := by rw [e5]
    have r5 : 0 ≤ x5.toInt ∧ x5.toInt ≤ 24 := by rw [e5]; exact hI3.1 6 i 8
    refine th_bipush (v := 24) C dc_H_raise_24 th_b_24 ?_
    refine tq_icmp_ne (tgt := 37) C dc_H_raise_26 (by decide) rfl th_l_24 (fun c6 => ?_) (fun c6 => ?_)
    · refine th_aload_n C dc_H_raise_37 rfl rfl ?_
      refine th_aload_n C dc_H_raise_38 rfl rfl ?_
      refine tq_getIe C dc_H_raise_39 cl_6 fd_H_129 rfl (show i < 5 from by omega) e5 ?_
      refine tq_putI C dc_H_raise_42 cl_6 fd_H_109 rfl (show i < 5 from by omega) rfl rfl ?_
      refine th_gen (P := fun J => th_Inv K sl Z J ∧ J = th_u I3 6 i 6 x5) ⟨th_put hI3 (by decide) (show 0 ≤ x5.toInt ∧ x5.toInt ≤ 24 from by omega), rfl⟩ (fun I7 hI7 => ?_)
      obtain ⟨hI7, u7⟩ := hI7
      have e8 : x2 = I7 0 0 10 := by rw [u7, th_u_tag (by decide)]; exact e3
      have g8 : x2.toInt = (I7 0 0 10).toInt := by rw [← e8]
      have e9 : x5 = I7 6 i 8 := by rw [u7, th_u_slot (by decide)]; exact e5
      have g9 : x5.toInt = (I7 6 i 8).toInt := by rw [← e9]
      have e7 : x5 = I7 6 i 6 := by rw [u7, th_u_eq]
      have g7 : x5.toInt = (I7 6 i 6).toInt := by rw [← e7]
      refine th_aload_n C dc_H_raise_45 rfl rfl ?_
      refine th_bipush (v := 24) C dc_H_raise_46 th_b_24 ?_
      refine tq_putI C dc_H_raise_48 cl_6 fd_H_129 rfl (show i < 5 from by omega) rfl rfl ?_
      refine th_gen (P := fun J => th_Inv K sl Z J ∧ J = th_u I7 6 i 8 ((24 : Int32))) ⟨th_put hI7 (by decide) (show 0 ≤ (24 : Int32).toInt ∧ (24 : Int32).toInt ≤ 24 from by rw [th_l_24]; omega), rfl⟩ (fun I10 hI10 => ?_)
      obtain ⟨hI10, u10⟩ := hI10
      have e11 : x2 = I10 0 0 10 := by rw [u10, th_u_tag (by decide)]; exact e8
      have g11 : x2.toInt = (I10 0 0 10).toInt := by rw [← e11]
      have e12 : x5 = I10 6 i 6 := by rw [u10, th_u_slot (by decide)]; exact e7
      have g12 : x5.toInt = (I10 6 i 6).toInt := by rw [← e12]
      have e10 : (24 : Int32) = I10 6 i 8 := by rw [u10, th_u_eq]
      have g10 : 24 = (I10 6 i 8).toInt := by rw [← e10]; exact th_l_24.symm
      refine th_aload_n C dc_H_raise_51 rfl rfl ?_
      refine th_aload_n C dc_H_raise_52 rfl rfl ?_
      refine th_iconst (v := 3) C dc_H_raise_53 th_c_3 ?_
      refine th_iload_n C dc_H_raise_54 rfl rfl ?_
      refine tq_callVv C (c_H_write l hl I10 i ((3 : Int32)) e hI10 (by have := th_l_3; omega) (by have := th_l_3; omega)) ok_H_205 cl_0 (show 0 < 1 from by omega) rfl (Nat.le_of_ble_eq_true rfl) dc_H_raise_55 rfl (fun I13 p13 => ?_)
      obtain ⟨hI13, p13⟩ := p13
      try simp only [th_l_3] at p13
      exact th_vret C hQ dc_H_raise_58 (by decide) (by decide) ⟨_, rfl, rfl, hI13, trivial⟩
    · refine th_aload_n C dc_H_raise_29 rfl rfl ?_
      refine th_aload_n C dc_H_raise_30 rfl rfl ?_
      refine th_iload_n C dc_H_raise_31 rfl rfl ?_
      refine tq_ineg C dc_H_raise_32 (fun x14 e14 => ?_)
      refine tq_callVv C (c_H_finish l hl I3 i x14 hI3 (by omega)) ok_H_186 cl_0 (show 0 < 1 from by omega) rfl (Nat.le_of_ble_eq_true rfl) dc_H_raise_33 rfl (fun I15 p15 => ?_)
      obtain ⟨hI15, p15⟩ := p15
      exact th_vret C hQ dc_H_raise_36 (by decide) (by decide) ⟨_, rfl, rfl, hI15, trivial⟩
  · refine th_aload_n C dc_H_raise_16 rfl rfl ?_
    refine tq_callVv C (c_S_forgetInterrupt l hl I3 i hI3 (by omega)) ok_H_298 cl_6 (show i < 5 from by omega) rfl (Nat.le_of_ble_eq_true rfl) dc_H_raise_17 rfl (fun I16 p16 => ?_)
    obtain ⟨hI16, p16⟩ := p16
    refine th_aload_n C dc_H_raise_20 rfl rfl ?_
    refine tq_getI C dc_H_raise_21 cl_6 fd_H_129 rfl (show i < 5 from by omega) (fun x17 e17 => ?_)
    have g17 : x17.toInt = (I16 6 i 8).toInt := by rw [e17]
    have r17 : 0 ≤ x17.toInt ∧ x17.toInt ≤ 24 := by rw [e17]; exact hI16.1 6 i 8
    refine th_bipush (v := 24) C dc_H_raise_24 th_b_24 ?_
    refine tq_icmp_ne (tgt := 37) C dc_H_raise_26 (by decide) rfl th_l_24 (fun c18 => ?_) (fun c18 => ?_)
    · refine th_aload_n C dc_H_raise_37 rfl rfl ?_
      refine th_aload_n C dc_H_raise_38 rfl rfl ?_
      refine tq_getIe C dc_H_raise_39 cl_6 fd_H_129 rfl (show i < 5 from by omega) e17 ?_
      refine tq_putI C dc_H_raise_42 cl_6 fd_H_109 rfl (show i < 5 from by omega) rfl rfl ?_
      refine th_gen (P := fun J => th_Inv K sl Z J ∧ J = th_u I16 6 i 6 x17) ⟨th_put hI16 (by decide) (show 0 ≤ x17.toInt ∧ x17.toInt ≤ 24 from by omega), rfl⟩ (fun I19 hI19 => ?_)
      obtain ⟨hI19, u19⟩ := hI19
      have e20 : x17 = I19 6 i 8 := by rw [u19, th_u_slot (by decide)]; exact e17
      have g20 : x17.toInt = (I19 6 i 8).toInt := by rw [← e20]
      have e19 : x17 = I19 6 i 6 := by rw [u19, th_u_eq]
      have g19 : x17.toInt = (I19 6 i 6).toInt := by rw [← e19]
      refine th_aload_n C dc_H_raise_45 rfl rfl ?_
      refine th_bipush (v := 24) C dc_H_raise_46 th_b_24 ?_
      refine tq_putI C dc_H_raise_48 cl_6 fd_H_129 rfl (show i < 5 from by omega) rfl rfl ?_
      refine th_gen (P := fun J => th_Inv K sl Z J ∧ J = th_u I19 6 i 8 ((24 : Int32))) ⟨th_put hI19 (by decide) (show 0 ≤ (24 : Int32).toInt ∧ (24 : Int32).toInt ≤ 24 from by rw [th_l_24]; omega), rfl⟩ (fun I21 hI21 => ?_)
      obtain ⟨hI21, u21⟩ := hI21
      have e22 : x17 = I21 6 i 6 := by rw [u21, th_u_slot (by decide)]; exact e19
      have g22 : x17.toInt = (I21 6 i 6).toInt := by rw [← e22]
      have e21 : (24 : Int32) = I21 6 i 8 := by rw [u21, th_u_eq]
      have g21 : 24 = (I21 6 i 8).toInt := by rw [← e21]; exact th_l_24.symm
      refine th_aload_n C dc_H_raise_51 rfl rfl ?_
      refine th_aload_n C dc_H_raise_52 rfl rfl ?_
      refine th_iconst (v := 3) C dc_H_raise_53 th_c_3 ?_
      refine th_iload_n C dc_H_raise_54 rfl rfl ?_
      refine tq_callVv C (c_H_write l hl I21 i ((3 : Int32)) e hI21 (by have := th_l_3; omega) (by have := th_l_3; omega)) ok_H_205 cl_0 (show 0 < 1 from by omega) rfl (Nat.le_of_ble_eq_true rfl) dc_H_raise_55 rfl (fun I23 p23 => ?_)
      obtain ⟨hI23, p23⟩ := p23
      try simp only [th_l_3] at p23
      exact th_vret C hQ dc_H_raise_58 (by decide) (by decide) ⟨_, rfl, rfl, hI23, trivial⟩
    · refine th_aload_n C dc_H_raise_29 rfl rfl ?_
      refine th_aload_n C dc_H_raise_30 rfl rfl ?_
      refine th_iload_n C dc_H_raise_31 rfl rfl ?_
      refine tq_ineg C dc_H_raise_32 (fun x24 e24 => ?_)
      refine tq_callVv C (c_H_finish l hl I16 i x24 hI16 (by omega)) ok_H_186 cl_0 (show 0 < 1 from by omega) rfl (Nat.le_of_ble_eq_true rfl) dc_H_raise_33 rfl (fun I25 p25 => ?_)
      obtain ⟨hI25, p25⟩ := p25
      exact th_vret C hQ dc_H_raise_36 (by decide) (by decide) ⟨_, rfl, rfl, hI25, trivial⟩

set_option maxRecDepth 100000 in
set_option maxHeartbeats 4000000 in
theorem c_H_perform (l : Launch) (hl : l.stackTraces = false) {K sl : Int} {Z : th_I} (I : th_I) (i : Nat) (o : Int32) (a : Int32) (b : Int32) (hI : th_Inv K sl Z I) (hi : i < 5) (hv : th_valid o.toInt a.toInt b.toInt) (hK : K < 1000000) : th_F l yn_H_perform cb_H_perform 5 (some .int) { frames := 4, cells := 0, slots := 0, locals := 93 } [.inr (some (0, 0)), .inr (some (6, i)), .inl o, .inl a, .inl b] (th_m I) (th_ri (fun x J => th_Inv (K + 1) sl Z J ∧ (0 ≤ x.toInt ∧ x.toInt ≤ 7))) := by
  refine th_of hl (by decide +kernel) (Nat.le_of_ble_eq_true rfl) (fun z C hQ hN => ?_)
  show th_G l z 5 0 [(0, .inr (some (0, 0))), (1, .inr (some (6, i))), (2, .inl o), (3, .inl a), (4, .inl b)] [] (th_m I) 0 0
  have hb := hI.2.2.1
  unfold th_valid at hv
  refine th_iload_n C dc_H_perform_0 rfl rfl ?_
  have w1 : o.toInt = 0 ∨ o.toInt = 1 ∨ o.toInt = 2 ∨ o.toInt = 3 ∨ o.toInt = 4 ∨ o.toInt = 5 ∨ o.toInt = 6 ∨ o.toInt = 7 ∨ o.toInt = 8 ∨ o.toInt = 9 ∨ o.toInt = 10 ∨ o.toInt = 11 ∨ o.toInt = 12 ∨ o.toInt = 13 ∨ o.toInt = 14 ∨ o.toInt = 15 ∨ o.toInt = 16 ∨ o.toInt = 17 ∨ o.toInt = 18 ∨ o.toInt = 19 ∨ (o.toInt < 0 ∨ 19 < o.toInt) := by omega
  rcases w1 with w1 | w1 | w1 | w1 | w1 | w1 | w1 | w1 | w1 | w1 | w1 | w1 | w1 | w1 | w1 | w1 | w1 | w1 | w1 | w1 | w1
  · refine th_tableIn (tgt := 96) C dc_H_perform_1 (by omega) (by omega) (by rw [w1]; rfl) (by decide) ?_
    refine th_aload_n C dc_H_perform_96 rfl rfl ?_
    refine th_aload_n C dc_H_perform_97 rfl rfl ?_
    refine th_iload_n C dc_H_perform_98 rfl rfl ?_
    refine th_iload C dc_H_perform_99 rfl ?_
    refine tq_callVv C (c_H_write l hl I i a b hI (by omega) (by omega)) ok_H_205 cl_0 (show 0 < 1 from by omega) rfl (Nat.le_of_ble_eq_true rfl) dc_H_perform_101 rfl (fun I2 p2 => ?_)
    obtain ⟨hI2, p2⟩ := p2
    refine th_goto (tgt := 312) C dc_H_perform_104 (by decide) ?_
    refine th_iconst (v := 0) C dc_H_perform_312 th_c_0 ?_
    exact th_iret C hQ dc_H_perform_313 (by decide) (by decide) ⟨_, _, rfl, rfl, (by first | exact hI2 | exact th_mono hI2 (by omega) (by omega)), (by have := th_l_0; first | omega | (dsimp only; omega))⟩
  · refine th_tableIn (tgt := 107) C dc_H_perform_1 (by omega) (by omega) (by rw [w1]; rfl) (by decide) ?_
    refine th_aload_n C dc_H_perform_107 rfl rfl ?_
    refine th_aload_n C dc_H_perform_108 rfl rfl ?_
    refine th_iload_n C dc_H_perform_109 rfl rfl ?_
    refine th_aload_n C dc_H_perform_110 rfl rfl ?_
    refine th_aload_n C dc_H_perform_111 rfl rfl ?_
    refine th_iload_n C dc_H_perform_112 rfl rfl ?_
    refine tq_callVp C (c_H_read l hl I i a hI (by omega) (by omega)) ok_H_102 cl_0 (show 0 < 1 from by omega) rfl (Nat.le_of_ble_eq_true rfl) dc_H_perform_113 rfl (fun x3 p3 => ?_)
    refine th_iload C dc_H_perform_116 rfl ?_
    refine tq_iadd C dc_H_perform_118 rfl rfl (fun x4 e4 a4 => ?_)
    refine tq_callVv C (c_H_write l hl I i a x4 hI (by omega) (by omega)) ok_H_205 cl_0 (show 0 < 1 from by omega) rfl (Nat.le_of_ble_eq_true rfl) dc_H_perform_119 rfl (fun I5 p5 => ?_)
    obtain ⟨hI5, p5⟩ := p5
    refine th_goto (tgt := 312) C dc_H_perform_122 (by decide) ?_
    refine th_iconst (v := 0) C dc_H_perform_312 th_c_0 ?_
    exact th_iret C hQ dc_H_perform_313 (by decide) (by decide) ⟨_, _, rfl, rfl, (by first | exact hI5 | exact th_mono hI5 (by omega) (by omega)), (by have := th_l_0; first | omega | (dsimp only; omega))⟩
  · refine th_tableIn (tgt := 125) C dc_H_perform_1 (by omega) (by omega) (by rw [w1]; rfl) (by decide) ?_
    refine th_aload_n C dc_H_perform_125 rfl rfl ?_
    refine th_aload_n C dc_H_perform_126 rfl rfl ?_
    refine th_iload_n C dc_H_perform_127 rfl rfl ?_
    refine th_aload_n C dc_H_perform_128 rfl rfl ?_
    refine th_aload_n C dc_H_perform_129 rfl rfl ?_
    refine th_iload C dc_H_perform_130 rfl ?_
    refine tq_callVp C (c_H_read l hl I i b hI (by omega) (by omega)) ok_H_102 cl_0 (show 0 < 1 from by omega) rfl (Nat.le_of_ble_eq_true rfl) dc_H_perform_132 rfl (fun x6 p6 => ?_)
    refine tq_callVv C (c_H_write l hl I i a x6 hI (by omega) (by omega)) ok_H_205 cl_0 (show 0 < 1 from by omega) rfl (Nat.le_of_ble_eq_true rfl) dc_H_perform_135 rfl (fun I7 p7 => ?_)
    obtain ⟨hI7, p7⟩ := p7
    refine th_goto (tgt := 312) C dc_H_perform_138 (by decide) ?_
    refine th_iconst (v := 0) C dc_H_perform_312 th_c_0 ?_
    exact th_iret C hQ dc_H_perform_313 (by decide) (by decide) ⟨_, _, rfl, rfl, (by first | exact hI7 | exact th_mono hI7 (by omega) (by omega)), (by have := th_l_0; first | omega | (dsimp only; omega))⟩
  · refine th_tableIn (tgt := 141) C dc_H_perform_1 (by omega) (by omega) (by rw [w1]; rfl) (by decide) ?_
    refine th_aload_n C dc_H_perform_141 rfl rfl ?_
    refine th_iload_n C dc_H_perform_142 rfl rfl ?_
    refine th_iload C dc_H_perform_143 rfl ?_
    refine tq_callSi C (c_H_bind l hl I i a b hI (by omega) (by omega)) ok_H_209 rfl (Nat.le_of_ble_eq_true rfl) dc_H_perform_145 rfl (fun x8 I8 p8 => ?_)
    obtain ⟨hI8, p8⟩ := p8
    exact th_iret C hQ dc_H_perform_148 (by decide) (by decide) ⟨_, _, rfl, rfl, (by first | exact hI8 | exact th_mono hI8 (by omega) (by omega)), (by first | omega | (dsimp only; omega))⟩
  · refine th_tableIn (tgt := 149) C dc_H_perform_1 (by omega) (by omega) (by rw [w1]; rfl) (by decide) ?_
    refine th_aload_n C dc_H_perform_149 rfl rfl ?_
    refine th_iload_n C dc_H_perform_150 rfl rfl ?_
    refine tq_callSi C (c_H_unbind l hl I i a hI (by omega)) ok_H_213 rfl (Nat.le_of_ble_eq_true rfl) dc_H_perform_151 rfl (fun x9 I9 p9 => ?_)
    obtain ⟨hI9, p9⟩ := p9
    exact th_iret C hQ dc_H_perform_154 (by decide) (by decide) ⟨_, _, rfl, rfl, (by first | exact hI9 | exact th_mono hI9 (by omega) (by omega)), (by first | omega | (dsimp only; omega))⟩
  · refine th_tableIn (tgt := 155) C dc_H_perform_1 (by omega) (by omega) (by rw [w1]; rfl) (by decide) ?_
    refine th_aload_n C dc_H_perform_155 rfl rfl ?_
    refine th_aload_n C dc_H_perform_156 rfl rfl ?_
    refine th_iload_n C dc_H_perform_157 rfl rfl ?_
    refine th_iconst (v := 1) C dc_H_perform_158 th_c_1 ?_
    refine tq_callVv C (c_H_goFor l hl I i a ((1 : Int32)) hI (by have := th_l_1; omega) (by have := th_l_1; omega)) ok_H_216 cl_0 (show 0 < 1 from by omega) rfl (Nat.le_of_ble_eq_true rfl) dc_H_perform_159 rfl (fun I10 p10 => ?_)
    obtain ⟨hI10, p10⟩ := p10
    try simp only [th_l_1] at p10
    refine th_goto (tgt := 312) C dc_H_perform_162 (by decide) ?_
    refine th_iconst (v := 0) C dc_H_perform_312 th_c_0 ?_
    exact th_iret C hQ dc_H_perform_313 (by decide) (by decide) ⟨_, _, rfl, rfl, (by first | exact hI10 | exact th_mono hI10 (by omega) (by omega)), (by have := th_l_0; first | omega | (dsimp only; omega))⟩
  · refine th_tableIn (tgt := 165) C dc_H_perform_1 (by omega) (by omega) (by rw [w1]; rfl) (by decide) ?_
    refine th_aload_n C dc_H_perform_165 rfl rfl ?_
    refine th_aload_n C dc_H_perform_166 rfl rfl ?_
    refine th_iload_n C dc_H_perform_167 rfl rfl ?_
    refine tq_callVi C (c_H_unlock l hl I i a hI (by omega) (by omega)) ok_H_219 cl_0 (show 0 < 1 from by omega) rfl (Nat.le_of_ble_eq_true rfl) dc_H_perform_168 rfl (fun x11 I11 p11 => ?_)
    obtain ⟨hI11, p11⟩ := p11
    exact th_iret C hQ dc_H_perform_171 (by decide) (by decide) ⟨_, _, rfl, rfl, (by first | exact hI11 | exact th_mono hI11 (by omega) (by omega)), (by first | omega | (dsimp only; omega))⟩
  · refine th_tableIn (tgt := 172) C dc_H_perform_1 (by omega) (by omega) (by rw [w1]; rfl) (by decide) ?_
    refine th_aload_n C dc_H_perform_172 rfl rfl ?_
    refine th_aload_n C dc_H_perform_173 rfl rfl ?_
    refine th_iload_n C dc_H_perform_174 rfl rfl ?_
    refine th_iload C dc_H_perform_175 rfl ?_
    refine tq_callVv C (c_H_tryLock l hl I i a b hI (by omega) (by omega) (by omega)) ok_H_222 cl_0 (show 0 < 1 from by omega) rfl (Nat.le_of_ble_eq_true rfl) dc_H_perform_177 rfl (fun I12 p12 => ?_)
    obtain ⟨hI12, p12⟩ := p12
    refine th_goto (tgt := 312) C dc_H_perform_180 (by decide) ?_
    refine th_iconst (v := 0) C dc_H_perform_312 th_c_0 ?_
    exact th_iret C hQ dc_H_perform_313 (by decide) (by decide) ⟨_, _, rfl, rfl, (by first | exact hI12 | exact th_mono hI12 (by omega) (by omega)), (by have := th_l_0; first | omega | (dsimp only; omega))⟩
  · refine th_tableIn (tgt := 183) C dc_H_perform_1 (by omega) (by omega) (by rw [w1]; rfl) (by decide) ?_
    refine th_aload_n C dc_H_perform_183 rfl rfl ?_
    refine th_aload_n C dc_H_perform_184 rfl rfl ?_
    refine th_iload_n C dc_H_perform_185 rfl rfl ?_
    refine th_iload C dc_H_perform_186 rfl ?_
    refine tq_callVi C (c_H_beginWait l hl I i a b hI (by omega) (by omega) (by omega)) ok_H_225 cl_0 (show 0 < 1 from by omega) rfl (Nat.le_of_ble_eq_true rfl) dc_H_perform_188 rfl (fun x13 I13 p13 => ?_)
    obtain ⟨hI13, p13⟩ := p13
    exact th_iret C hQ dc_H_perform_191 (by decide) (by decide) ⟨_, _, rfl, rfl, (by first | exact hI13 | exact th_mono hI13 (by omega) (by omega)), (by first | omega | (dsimp only; omega))⟩
  · refine th_tableIn (tgt := 192) C dc_H_perform_1 (by omega) (by omega) (by rw [w1]; rfl) (by decide) ?_
    refine th_aload_n C dc_H_perform_192 rfl rfl ?_
    refine th_aload_n C dc_H_perform_193 rfl rfl ?_
    refine tq_getR C dc_H_perform_194 cl_0 fd_H_27 rfl (show 0 < 1 from by omega) rfl ?_
    refine th_iload_n C dc_H_perform_197 rfl rfl ?_
    obtain ⟨n14, m14⟩ := th_nat (a := a.toInt) (by omega)
    refine tq_aaldN C dc_H_perform_198 rfl (fun _ => rfl) (show 0 < 1 from by omega) rfl m14 (show n14 < 3 from by omega) (fun _ => rfl) ?_
    refine tq_callVv C (c_H_tellFirst l hl I (8 + n14) hI (by omega)) ok_H_228 cl_0 (show 0 < 1 from by omega) rfl (Nat.le_of_ble_eq_true rfl) dc_H_perform_199 rfl (fun I15 p15 => ?_)
    obtain ⟨hI15, p15⟩ := p15
    refine th_goto (tgt := 312) C dc_H_perform_202 (by decide) ?_
    refine th_iconst (v := 0) C dc_H_perform_312 th_c_0 ?_
    exact th_iret C hQ dc_H_perform_313 (by decide) (by decide) ⟨_, _, rfl, rfl, (by first | exact hI15 | exact th_mono hI15 (by omega) (by omega)), (by have := th_l_0; first | omega | (dsimp only; omega))⟩
  · refine th_tableIn (tgt := 205) C dc_H_perform_1 (by omega) (by omega) (by rw [w1]; rfl) (by decide) ?_
    refine th_aload_n C dc_H_perform_205 rfl rfl ?_
    refine th_aload_n C dc_H_perform_206 rfl rfl ?_
    refine tq_getR C dc_H_perform_207 cl_0 fd_H_27 rfl (show 0 < 1 from by omega) rfl ?_
    refine th_iload_n C dc_H_perform_210 rfl rfl ?_
    obtain ⟨n16, m16⟩ := th_nat (a := a.toInt) (by omega)
    refine tq_aaldN C dc_H_perform_211 rfl (fun _ => rfl) (show 0 < 1 from by omega) rfl m16 (show n16 < 3 from by omega) (fun _ => rfl) ?_
    refine tq_callVv C (c_H_tellAll l hl I (8 + n16) hI (by omega)) ok_H_232 cl_0 (show 0 < 1 from by omega) rfl (Nat.le_of_ble_eq_true rfl) dc_H_perform_212 rfl (fun I17 p17 => ?_)
    obtain ⟨hI17, p17⟩ := p17
    refine th_goto (tgt := 312) C dc_H_perform_215 (by decide) ?_
    refine th_iconst (v := 0) C dc_H_perform_312 th_c_0 ?_
    exact th_iret C hQ dc_H_perform_313 (by decide) (by decide) ⟨_, _, rfl, rfl, (by first | exact hI17 | exact th_mono hI17 (by omega) (by omega)), (by have := th_l_0; first | omega | (dsimp only; omega))⟩
  · refine th_tableIn (tgt := 218) C dc_H_perform_1 (by omega) (by omega) (by rw [w1]; rfl) (by decide) ?_
    refine th_aload_n C dc_H_perform_218 rfl rfl ?_
    refine tq_getR C dc_H_perform_219 cl_0 fd_H_11 rfl (show 0 < 1 from by omega) rfl ?_
    refine th_iload_n C dc_H_perform_222 rfl rfl ?_
    obtain ⟨n18, m18⟩ := th_nat (a := a.toInt) (by omega)
    refine tq_aaldN C dc_H_perform_223 rfl (fun _ => rfl) (show 0 < 1 from by omega) rfl m18 (show n18 < 5 from by omega) (fun _ => rfl) ?_
    refine tq_callSi C (c_H_startOther l hl I n18 hI (by omega)) ok_H_235 rfl (Nat.le_of_ble_eq_true rfl) dc_H_perform_224 rfl (fun x19 I19 p19 => ?_)
    obtain ⟨hI19, p19⟩ := p19
    exact th_iret C hQ dc_H_perform_227 (by decide) (by decide) ⟨_, _, rfl, rfl, (by first | exact hI19 | exact th_mono hI19 (by omega) (by omega)), (by first | omega | (dsimp only; omega))⟩
  · refine th_tableIn (tgt := 228) C dc_H_perform_1 (by omega) (by omega) (by rw [w1]; rfl) (by decide) ?_
    refine th_aload_n C dc_H_perform_228 rfl rfl ?_
    refine th_aload_n C dc_H_perform_229 rfl rfl ?_
    refine th_iload_n C dc_H_perform_230 rfl rfl ?_
    refine th_iload C dc_H_perform_231 rfl ?_
    refine tq_callVi C (c_H_beginJoin l hl I i a b hI (by omega) (by omega) (by omega)) ok_H_239 cl_0 (show 0 < 1 from by omega) rfl (Nat.le_of_ble_eq_true rfl) dc_H_perform_233 rfl (fun x20 I20 p20 => ?_)
    obtain ⟨hI20, p20⟩ := p20
    exact th_iret C hQ dc_H_perform_236 (by decide) (by decide) ⟨_, _, rfl, rfl, (by first | exact hI20 | exact th_mono hI20 (by omega) (by omega)), (by first | omega | (dsimp only; omega))⟩
  · refine th_tableIn (tgt := 237) C dc_H_perform_1 (by omega) (by omega) (by rw [w1]; rfl) (by decide) ?_
    refine th_aload_n C dc_H_perform_237 rfl rfl ?_
    refine th_aload_n C dc_H_perform_238 rfl rfl ?_
    refine tq_getR C dc_H_perform_239 cl_0 fd_H_11 rfl (show 0 < 1 from by omega) rfl ?_
    refine th_iload_n C dc_H_perform_242 rfl rfl ?_
    obtain ⟨n21, m21⟩ := th_nat (a := a.toInt) (by omega)
    refine tq_aaldN C dc_H_perform_243 rfl (fun _ => rfl) (show 0 < 1 from by omega) rfl m21 (show n21 < 5 from by omega) (fun _ => rfl) ?_
    refine tq_callVv C (c_H_interruptAlive l hl I n21 hI (by omega)) ok_H_99 cl_0 (show 0 < 1 from by omega) rfl (Nat.le_of_ble_eq_true rfl) dc_H_perform_244 rfl (fun I22 p22 => ?_)
    obtain ⟨hI22, p22⟩ := p22
    refine th_goto (tgt := 312) C dc_H_perform_247 (by decide) ?_
    refine th_iconst (v := 0) C dc_H_perform_312 th_c_0 ?_
    exact th_iret C hQ dc_H_perform_313 (by decide) (by decide) ⟨_, _, rfl, rfl, (by first | exact hI22 | exact th_mono hI22 (by omega) (by omega)), (by have := th_l_0; first | omega | (dsimp only; omega))⟩
  · refine th_tableIn (tgt := 250) C dc_H_perform_1 (by omega) (by omega) (by rw [w1]; rfl) (by decide) ?_
    refine th_aload_n C dc_H_perform_250 rfl rfl ?_
    refine th_iload_n C dc_H_perform_251 rfl rfl ?_
    refine tq_putI C dc_H_perform_252 cl_6 fd_H_129 rfl (show i < 5 from by omega) rfl rfl ?_
    refine th_gen (P := fun J => th_Inv K sl Z J ∧ J = th_u I 6 i 8 a) ⟨th_put hI (by decide) (show 0 ≤ a.toInt ∧ a.toInt ≤ 24 from by omega), rfl⟩ (fun I23 hI23 => ?_)
    obtain ⟨hI23, u23⟩ := hI23
    have e23 : a = I23 6 i 8 := by rw [u23, th_u_eq]
    have g23 : a.toInt = (I23 6 i 8).toInt := by rw [← e23]
    refine th_goto (tgt := 312) C dc_H_perform_255 (by decide) ?_
    refine th_iconst (v := 0) C dc_H_perform_312 th_c_0 ?_
    exact th_iret C hQ dc_H_perform_313 (by decide) (by decide) ⟨_, _, rfl, rfl, (by first | exact hI23 | exact th_mono hI23 (by omega) (by omega)), (by have := th_l_0; first | omega | (dsimp only; omega))⟩
  · refine th_tableIn (tgt := 258) C dc_H_perform_1 (by omega) (by omega) (by rw [w1]; rfl) (by decide) ?_
    refine th_aload_n C dc_H_perform_258 rfl rfl ?_
    refine th_iload_n C dc_H_perform_259 rfl rfl ?_
    refine th_iload C dc_H_perform_260 rfl ?_
    refine tq_callSi C (c_H_hook l hl I i a b hI (by omega) (by omega)) ok_H_242 rfl (Nat.le_of_ble_eq_true rfl) dc_H_perform_262 rfl (fun x24 I24 p24 => ?_)
    obtain ⟨hI24, p24⟩ := p24
    exact th_iret C hQ dc_H_perform_265 (by decide) (by decide) ⟨_, _, rfl, rfl, (by first | exact hI24 | exact th_mono hI24 (by omega) (by omega)), (by first | omega | (dsimp only; omega))⟩
  · refine th_tableIn (tgt := 266) C dc_H_perform_1 (by omega) (by omega) (by rw [w1]; rfl) (by decide) ?_
    refine th_aload_n C dc_H_perform_266 rfl rfl ?_
    refine th_iload_n C dc_H_perform_267 rfl rfl ?_
    refine tq_putI C dc_H_perform_268 cl_6 fd_H_109 rfl (show i < 5 from by omega) rfl rfl ?_
    refine th_gen (P := fun J => th_Inv K sl Z J ∧ J = th_u I 6 i 6 a) ⟨th_put hI (by decide) (show 0 ≤ a.toInt ∧ a.toInt ≤ 24 from by omega), rfl⟩ (fun I25 hI25 => ?_)
    obtain ⟨hI25, u25⟩ := hI25
    have e25 : a = I25 6 i 6 := by rw [u25, th_u_eq]
    have g25 : a.toInt = (I25 6 i 6).toInt := by rw [← e25]
    refine th_goto (tgt := 312) C dc_H_perform_271 (by decide) ?_
    refine th_iconst (v := 0) C dc_H_perform_312 th_c_0 ?_
    exact th_iret C hQ dc_H_perform_313 (by decide) (by decide) ⟨_, _, rfl, rfl, (by first | exact hI25 | exact th_mono hI25 (by omega) (by omega)), (by have := th_l_0; first | omega | (dsimp only; omega))⟩
  · refine th_tableIn (tgt := 274) C dc_H_perform_1 (by omega) (by omega) (by rw [w1]; rfl) (by decide) ?_
    refine th_aload_n C dc_H_perform_274 rfl rfl ?_
    refine th_aload_n C dc_H_perform_275 rfl rfl ?_
    refine th_iload_n C dc_H_perform_276 rfl rfl ?_
    refine th_iload C dc_H_perform_277 rfl ?_
    refine tq_callVv C (c_H_jumpIfZero l hl I i a b hI (by omega) (by omega) (by omega)) ok_H_245 cl_0 (show 0 < 1 from by omega) rfl (Nat.le_of_ble_eq_true rfl) dc_H_perform_279 rfl (fun I26 p26 => ?_)
    obtain ⟨hI26, p26⟩ := p26
    refine th_goto (tgt := 312) C dc_H_perform_282 (by decide) ?_
    refine th_iconst (v := 0) C dc_H_perform_312 th_c_0 ?_
    exact th_iret C hQ dc_H_perform_313 (by decide) (by decide) ⟨_, _, rfl, rfl, (by first | exact hI26 | exact th_mono hI26 (by omega) (by omega)), (by have := th_l_0; first | omega | (dsimp only; omega))⟩
  · refine th_tableIn (tgt := 285) C dc_H_perform_1 (by omega) (by omega) (by rw [w1]; rfl) (by decide) ?_
    refine th_aload_n C dc_H_perform_285 rfl rfl ?_
    refine th_aload_n C dc_H_perform_286 rfl rfl ?_
    refine th_aload_n C dc_H_perform_287 rfl rfl ?_
    refine th_iload_n C dc_H_perform_288 rfl rfl ?_
    refine tq_callVp C (c_H_read l hl I i a hI (by omega) (by omega)) ok_H_102 cl_0 (show 0 < 1 from by omega) rfl (Nat.le_of_ble_eq_true rfl) dc_H_perform_289 rfl (fun x27 p27 => ?_)
    refine tq_callVv C (c_H_keepSaid l hl I x27 hI (by omega)) ok_H_248 cl_0 (show 0 < 1 from by omega) rfl (Nat.le_of_ble_eq_true rfl) dc_H_perform_292 rfl (fun I28 p28 => ?_)
    obtain ⟨hI28, p28⟩ := p28
    refine th_goto (tgt := 312) C dc_H_perform_295 (by decide) ?_
    refine th_iconst (v := 0) C dc_H_perform_312 th_c_0 ?_
    exact th_iret C hQ dc_H_perform_313 (by decide) (by decide) ⟨_, _, rfl, rfl, (by first | exact hI28 | exact th_mono hI28 (by omega) (by omega)), (by have := th_l_0; first | omega | (dsimp only; omega))⟩
  · refine th_tableIn (tgt := 298) C dc_H_perform_1 (by omega) (by omega) (by rw [w1]; rfl) (by decide) ?_
    refine th_aload_n C dc_H_perform_298 rfl rfl ?_
    refine th_aload_n C dc_H_perform_299 rfl rfl ?_
    refine th_aload_n C dc_H_perform_300 rfl rfl ?_
    refine th_aload_n C dc_H_perform_301 rfl rfl ?_
    refine th_iload_n C dc_H_perform_302 rfl rfl ?_
    refine tq_callVp C (c_H_read l hl I i a hI (by omega) (by omega)) ok_H_102 cl_0 (show 0 < 1 from by omega) rfl (Nat.le_of_ble_eq_true rfl) dc_H_perform_303 rfl (fun x29 p29 => ?_)
    refine tq_callVv C (c_H_finish l hl I i x29 hI (by omega)) ok_H_186 cl_0 (show 0 < 1 from by omega) rfl (Nat.le_of_ble_eq_true rfl) dc_H_perform_306 rfl (fun I30 p30 => ?_)
    obtain ⟨hI30, p30⟩ := p30
    refine th_goto (tgt := 312) C dc_H_perform_309 (by decide) ?_
    refine th_iconst (v := 0) C dc_H_perform_312 th_c_0 ?_
    exact th_iret C hQ dc_H_perform_313 (by decide) (by decide) ⟨_, _, rfl, rfl, (by first | exact hI30 | exact th_mono hI30 (by omega) (by omega)), (by have := th_l_0; first | omega | (dsimp only; omega))⟩
  · refine th_tableOut (tgt := 312) C dc_H_perform_1 w1 (by decide) ?_
    refine th_iconst (v := 0) C dc_H_perform_312 th_c_0 ?_
    exact th_iret C hQ dc_H_perform_313 (by decide) (by decide) ⟨_, _, rfl, rfl, (by first | exact hI | exact th_mono hI (by omega) (by omega)), (by have := th_l_0; first | omega | (dsimp only; omega))⟩

set_option maxRecDepth 100000 in
set_option maxHeartbeats 4000000 in
theorem c_H_takeTurn (l : Launch) (hl : l.stackTraces = false) {K sl : Int} {Z : th_I} (I : th_I) (i : Nat) (hI : th_Inv K sl Z I) (hi : i < 5) (hK : K + 20 ≤ 1000000) : th_F l yn_H_takeTurn cb_H_takeTurn 6 none { frames := 5, cells := 0, slots := 0, locals := 117 } [.inr (some (0, 0)), .inr (some (6, i))] (th_m I) (th_rv (fun J => th_Inv (K + 20) sl Z J ∧ (True))) := by
  refine th_of hl (by decide +kernel) (Nat.le_of_ble_eq_true rfl) (fun z C hQ hN => ?_)
  show th_G l z 6 0 [(0, .inr (some (0, 0))), (1, .inr (some (6, i)))] [] (th_m I) 0 0
  have hb := hI.2.2.1
  refine th_aload_n C dc_H_takeTurn_0 rfl rfl ?_
  refine th_aload_n C dc_H_takeTurn_1 rfl rfl ?_
  refine tq_getI C dc_H_takeTurn_2 cl_6 fd_H_176 rfl (show i < 5 from by omega) (fun x1 e1 => ?_)
  have g1 : x1.toInt = (I 6 i 0).toInt := by rw [e1]
  have r1 : x1.toInt = (i : Int) ∨ 5 ≤ i := by rw [e1]; exact hI.1 6 i 0
  refine tq_putI C dc_H_takeTurn_5 cl_0 fd_H_43 rfl (show 0 < 1 from by omega) rfl rfl ?_
  refine th_gen (P := fun J => th_Inv K sl Z J ∧ J = th_u I 0 0 7 x1) ⟨th_put hI (by decide) (show -1 ≤ x1.toInt ∧ x1.toInt ≤ 4 from by omega), rfl⟩ (fun I2 hI2 => ?_)
  obtain ⟨hI2, u2⟩ := hI2
  have e3 : x1 = I2 6 i 0 := by rw [u2, th_u_tag (by decide)]; exact e1
  have g3 : x1.toInt = (I2 6 i 0).toInt := by rw [← e3]
  have e2 : x1 = I2 0 0 7 := by rw [u2, th_u_eq]
  have g2 : x1.toInt = (I2 0 0 7).toInt := by rw [← e2]
  refine th_aload_n C dc_H_takeTurn_8 rfl rfl ?_
  refine th_dup C dc_H_takeTurn_9 ?_
  refine tq_getI C dc_H_takeTurn_10 cl_0 fd_H_158 rfl (show 0 < 1 from by omega) (fun x4 e4 => ?_)
  have g4 : x4.toInt = (I2 0 0 8).toInt := by rw [e4]
  refine th_iconst (v := 1) C dc_H_takeTurn_13 th_c_1 ?_
  refine tq_iadd C dc_H_takeTurn_14 rfl th_l_1 (fun x5 e5 a5 => ?_)
  refine tq_putI C dc_H_takeTurn_15 cl_0 fd_H_158 rfl (show 0 < 1 from by omega) rfl rfl ?_
  refine th_gen (P := fun J => th_Inv K sl Z J ∧ J = th_u I2 0 0 8 x5) ⟨th_put hI2 (by decide) trivial, rfl⟩ (fun I6 hI6 => ?_)
  obtain ⟨hI6, u6⟩ := hI6
  have e7 : x1 = I6 6 i 0 := by rw [u6, th_u_tag (by decide)]; exact e3
  have g7 : x1.toInt = (I6 6 i 0).toInt := by rw [← e7]
  have e8 : x1 = I6 0 0 7 := by rw [u6, th_u_slot (by decide)]; exact e2
  have g8 : x1.toInt = (I6 0 0 7).toInt := by rw [← e8]
  have e6 : x5 = I6 0 0 8 := by rw [u6, th_u_eq]
  have g6 : x5.toInt = (I6 0 0 8).toInt := by rw [← e6]
  refine th_aload_n C dc_H_takeTurn_18 rfl rfl ?_
  refine tq_getI C dc_H_takeTurn_19 cl_6 fd_H_179 rfl (show i < 5 from by omega) (fun x9 e9 => ?_)
  have g9 : x9.toInt = (I6 6 i 12).toInt := by rw [e9]
  refine tq_if_eq (tgt := 32) C dc_H_takeTurn_22 (by decide) rfl (fun c10 => ?_) (fun c10 => ?_)
  · refine th_aload_n C dc_H_takeTurn_32 rfl rfl ?_
    refine tq_getR C dc_H_takeTurn_33 cl_6 fd_H_63 rfl (show i < 5 from by omega) rfl ?_
    refine th_astore_n (lv' := [(0, .inr (some (0, 0))), (1, .inr (some (6, i))), (2, .inr (some (7, i)))]) C dc_H_takeTurn_36 rfl (by decide) rfl ?_
    refine th_iconst (v := 0) C dc_H_takeTurn_37 th_c_0 ?_
    refine th_istore_n (lv' := [(0, .inr (some (0, 0))), (1, .inr (some (6, i))), (2, .inr (some (7, i))), (3, .inl ((0 : Int32)))]) C dc_H_takeTurn_38 rfl (by decide) rfl ?_
    have L39 : ∀ (N : Nat) (k : Int32) (I11 : th_I), (th_Inv (K + k.toInt) sl Z I11) → (0 ≤ k.toInt ∧ k.toInt ≤ sl) → (sl - k.toInt).toNat < N → th_G l z 6 39 [(0, .inr (some (0, 0))), (1, .inr (some (6, i))), (2, .inr (some (7, i))), (3, .inl k)] [] (th_m I11) 0 0 := by
      intro N
      induction N with
      | zero => intro k I11 hI11 h1 hm; exact absurd hm (Nat.not_lt_zero _)
      | succ N ih =>
        intro k I11 hI11 h1 hm
        refine th_iload_n C dc_H_takeTurn_39 rfl rfl ?_
        refine th_aload_n C dc_H_takeTurn_40 rfl rfl ?_
        refine tq_getI C dc_H_takeTurn_41 cl_0 fd_H_39 rfl (show 0 < 1 from by omega) (fun x12 e12 => ?_)
        have g12 : x12.toInt = (I11 0 0 6).toInt := by rw [e12]
        have r12 : x12.toInt = sl ∨ 0 < 0 := by rw [e12]; exact hI11.1 0 0 6
        refine tq_icmp_ge (tgt := 142) C dc_H_takeTurn_44 (by decide) rfl rfl (fun c13 => ?_) (fun c13 => ?_)
        · exact th_vret C hQ dc_H_takeTurn_142 (by decide) (by decide) ⟨_, rfl, rfl, (by first | exact hI11 | exact th_mono hI11 (by omega) (by omega)), trivial⟩
        · refine th_aload_n C dc_H_takeTurn_47 rfl rfl ?_
          refine tq_getI C dc_H_takeTurn_48 cl_6 fd_H_106 rfl (show i < 5 from by omega) (fun x14 e14 => ?_)
          have g14 : x14.toInt = (I11 6 i 5).toInt := by rw [e14]
          refine th_iconst (v := 1) C dc_H_takeTurn_51 th_c_1 ?_
          refine tq_icmp_eq (tgt := 56) C dc_H_takeTurn_52 (by decide) rfl th_l_1 (fun c15 => ?_) (fun c15 => ?_)
          · refine th_aload_n C dc_H_takeTurn_56 rfl rfl ?_
            refine tq_getI C dc_H_takeTurn_57 cl_6 fd_H_109 rfl (show i < 5 from by omega) (fun x16 e16 => ?_)
            have g16 : x16.toInt = (I11 6 i 6).toInt := by rw [e16]
            have r16 : 0 ≤ x16.toInt ∧ x16.toInt ≤ 24 := by rw [e16]; exact hI11.1 6 i 6
            refine th_istore (lv' := [(0, .inr (some (0, 0))), (1, .inr (some (6, i))), (2, .inr (some (7, i))), (3, .inl k), (4, .inl x16)]) C dc_H_takeTurn_60 (by decide) rfl ?_
            refine th_iload C dc_H_takeTurn_62 rfl ?_
            refine th_aload_n C dc_H_takeTurn_64 rfl rfl ?_
            refine tq_getI C dc_H_takeTurn_65 cl_7 fd_H_67 rfl (show i < 5 from by omega) (fun x17 e17 => ?_)
            have g17 : x17.toInt = (I11 7 i 3).toInt := by rw [e17]
            have r17 : 0 ≤ x17.toInt ∧ x17.toInt ≤ 24 := by rw [e17]; exact hI11.1 7 i 3
            refine tq_icmp_lt (tgt := 78) C dc_H_takeTurn_68 (by decide) rfl rfl (fun c18 => ?_) (fun c18 => ?_)
            · refine th_aload_n C dc_H_takeTurn_78 rfl rfl ?_
              refine th_aload_n C dc_H_takeTurn_79 rfl rfl ?_
              refine tq_callVv C (c_H_countInstruction l hl I11 i hI11 (by omega) (by omega)) ok_H_189 cl_0 (show 0 < 1 from by omega) rfl (Nat.le_of_ble_eq_true rfl) dc_H_takeTurn_80 rfl (fun I19 p19 => ?_)
              obtain ⟨hI19, p19⟩ := p19
              refine th_aload_n C dc_H_takeTurn_83 rfl rfl ?_
              refine th_aload_n C dc_H_takeTurn_84 rfl rfl ?_
              refine th_aload_n C dc_H_takeTurn_85 rfl rfl ?_
              refine tq_getR C dc_H_takeTurn_86 cl_7 fd_H_192 rfl (show i < 5 from by omega) rfl ?_
              refine th_iload C dc_H_takeTurn_89 rfl ?_
              obtain ⟨n21, m21⟩ := th_nat (a := x16.toInt) (by omega)
              refine tq_ialdN C dc_H_takeTurn_91 rfl (fun _ => rfl) (show i < 5 from by omega) rfl m21 (show n21 < 24 from by omega) (fun x20 e20 => ?_)
              have g20 : x20.toInt = (I19 8 i n21).toInt := by rw [e20]
              refine th_aload_n C dc_H_takeTurn_92 rfl rfl ?_
              refine tq_getR C dc_H_takeTurn_93 cl_7 fd_H_195 rfl (show i < 5 from by omega) rfl ?_
              refine th_iload C dc_H_takeTurn_96 rfl ?_
              refine tq_ialdN C dc_H_takeTurn_98 rfl (fun _ => rfl) (show i < 5 from by omega) rfl m21 (show n21 < 24 from by omega) (fun x22 e22 => ?_)
              have g22 : x22.toInt = (I19 9 i n21).toInt := by rw [e22]
              refine th_aload_n C dc_H_takeTurn_99 rfl rfl ?_
              refine tq_getR C dc_H_takeTurn_100 cl_7 fd_H_198 rfl (show i < 5 from by omega) rfl ?_
              refine th_iload C dc_H_takeTurn_103 rfl ?_
              refine tq_ialdN C dc_H_takeTurn_105 rfl (fun _ => rfl) (show i < 5 from by omega) rfl m21 (show n21 < 24 from by omega) (fun x23 e23 => ?_)
              have g23 : x23.toInt = (I19 10 i n21).toInt := by rw [e23]
              refine tq_callVi C (c_H_perform l hl I19 i x20 x22 x23 hI19 (by omega) (by rw [e20, e22, e23]; exact hI19.2.1 i n21) (by omega)) ok_H_201 cl_0 (show 0 < 1 from by omega) rfl (Nat.le_of_ble_eq_true rfl) dc_H_takeTurn_106 rfl (fun x24 I24 p24 => ?_)
              obtain ⟨hI24, p24⟩ := p24
              refine th_istore (lv' := [(0, .inr (some (0, 0))), (1, .inr (some (6, i))), (2, .inr (some (7, i))), (3, .inl k), (4, .inl x16), (5, .inl x24)]) C dc_H_takeTurn_109 (by decide) rfl ?_
              refine th_iload C dc_H_takeTurn_111 rfl ?_
              refine tq_if_eq (tgt := 123) C dc_H_takeTurn_113 (by decide) rfl (fun c25 => ?_) (fun c25 => ?_)
              · refine th_aload_n C dc_H_takeTurn_123 rfl rfl ?_
                refine tq_getR C dc_H_takeTurn_124 cl_7 fd_H_192 rfl (show i < 5 from by omega) rfl ?_
                refine th_iload C dc_H_takeTurn_127 rfl ?_
                refine tq_ialdN C dc_H_takeTurn_129 rfl (fun _ => rfl) (show i < 5 from by omega) rfl m21 (show n21 < 24 from by omega) (fun x26 e26 => ?_)
                have g26 : x26.toInt = (I24 8 i n21).toInt := by rw [e26]
                refine th_bipush (v := 20) C dc_H_takeTurn_130 th_b_20 ?_
                refine tq_icmp_ne (tgt := 136) C dc_H_takeTurn_132 (by decide) rfl th_l_20 (fun c27 => ?_) (fun c27 => ?_)
                · refine tq_iinc (lv' := fun rr => [(0, .inr (some (0, 0))), (1, .inr (some (6, i))), (2, .inr (some (7, i))), (3, .inl rr), (4, .inl x16), (5, .inl x24)]) C dc_H_takeTurn_136 rfl (by decide) th_c_1 rfl th_l_1 (fun rr => rfl) (fun x28 e28 a28 => ?_)
                  refine th_goto (tgt := 39) C dc_H_takeTurn_139 (by decide) ?_
                  refine th_sub C (lv' := [(0, .inr (some (0, 0))), (1, .inr (some (6, i))), (2, .inr (some (7, i))), (3, .inl x28)]) (fun q hq => by simp at hq ⊢; rcases hq with rfl | rfl | rfl | rfl <;> simp) ?_
                  exact ih x28 I24 (th_mono hI24 (by omega) (by omega)) (by omega) (by omega)
                · exact th_vret C hQ dc_H_takeTurn_135 (by decide) (by decide) ⟨_, rfl, rfl, (by first | exact hI24 | exact th_mono hI24 (by omega) (by omega)), trivial⟩
              · refine th_aload_n C dc_H_takeTurn_116 rfl rfl ?_
                refine th_aload_n C dc_H_takeTurn_117 rfl rfl ?_
                refine th_iload C dc_H_takeTurn_118 rfl ?_
                refine tq_callVv C (c_H_raise l hl I24 i x24 hI24 (by omega)) ok_H_182 cl_0 (show 0 < 1 from by omega) rfl (Nat.le_of_ble_eq_true rfl) dc_H_takeTurn_120 rfl (fun I29 p29 => ?_)
                obtain ⟨hI29, p29⟩ := p29
                refine th_aload_n C dc_H_takeTurn_123 rfl rfl ?_
                refine tq_getR C dc_H_takeTurn_124 cl_7 fd_H_192 rfl (show i < 5 from by omega) rfl ?_
                refine th_iload C dc_H_takeTurn_127 rfl ?_
                refine tq_ialdN C dc_H_takeTurn_129 rfl (fun _ => rfl) (show i < 5 from by omega) rfl m21 (show n21 < 24 from by omega) (fun x30 e30 => ?_)
                have g30 : x30.toInt = (I29 8 i n21).toInt := by rw [e30]
                refine th_bipush (v := 20) C dc_H_takeTurn_130 th_b_20 ?_
                refine tq_icmp_ne (tgt := 136) C dc_H_takeTurn_132 (by decide) rfl th_l_20 (fun c31 => ?_) (fun c31 => ?_)
                · refine tq_iinc (lv' := fun rr => [(0, .inr (some (0, 0))), (1, .inr (some (6, i))), (2, .inr (some (7, i))), (3, .inl rr), (4, .inl x16), (5, .inl x24)]) C dc_H_takeTurn_136 rfl (by decide) th_c_1 rfl th_l_1 (fun rr => rfl) (fun x32 e32 a32 => ?_)
                  refine th_goto (tgt := 39) C dc_H_takeTurn_139 (by decide) ?_
                  refine th_sub C (lv' := [(0, .inr (some (0, 0))), (1, .inr (some (6, i))), (2, .inr (some (7, i))), (3, .inl x32)]) (fun q hq => by simp at hq ⊢; rcases hq with rfl | rfl | rfl | rfl <;> simp) ?_
                  exact ih x32 I29 (th_mono hI29 (by omega) (by omega)) (by omega) (by omega)
                · exact th_vret C hQ dc_H_takeTurn_135 (by decide) (by decide) ⟨_, rfl, rfl, (by first | exact hI29 | exact th_mono hI29 (by omega) (by omega)), trivial⟩
            · refine th_aload_n C dc_H_takeTurn_71 rfl rfl ?_
              refine th_aload_n C dc_H_takeTurn_72 rfl rfl ?_
              refine th_iconst (v := 0) C dc_H_takeTurn_73 th_c_0 ?_
              refine tq_callVv C (c_H_finish l hl I11 i ((0 : Int32)) hI11 (by have := th_l_0; omega)) ok_H_186 cl_0 (show 0 < 1 from by omega) rfl (Nat.le_of_ble_eq_true rfl) dc_H_takeTurn_74 rfl (fun I33 p33 => ?_)
              obtain ⟨hI33, p33⟩ := p33
              try simp only [th_l_0] at p33
              exact th_vret C hQ dc_H_takeTurn_77 (by decide) (by decide) ⟨_, rfl, rfl, (by first | exact hI33 | exact th_mono hI33 (by omega) (by omega)), trivial⟩
          · exact th_vret C hQ dc_H_takeTurn_55 (by decide) (by decide) ⟨_, rfl, rfl, (by first | exact hI11 | exact th_mono hI11 (by omega) (by omega)), trivial⟩
    exact L39 _ ((0 : Int32)) I6 (th_mono hI6 (by rw [th_l_0]; omega) (by rw [th_l_0]; omega)) (by have := th_l_0; omega) (Nat.lt_succ_self _)
  · refine th_aload_n C dc_H_takeTurn_25 rfl rfl ?_
    refine th_aload_n C dc_H_takeTurn_26 rfl rfl ?_
    refine th_bipush (v := 7) C dc_H_takeTurn_27 th_b_7 ?_
    refine tq_callVv C (c_H_raise l hl I6 i ((7 : Int32)) hI6 (by have := th_l_7; omega)) ok_H_182 cl_0 (show 0 < 1 from by omega) rfl (Nat.le_of_ble_eq_true rfl) dc_H_takeTurn_29 rfl (fun I34 p34 => ?_)
    obtain ⟨hI34, p34⟩ := p34
    try simp only [th_l_7] at p34
    refine th_aload_n C dc_H_takeTurn_32 rfl rfl ?_
    refine tq_getR C dc_H_takeTurn_33 cl_6 fd_H_63 rfl (show i < 5 from by omega) rfl ?_
    refine th_astore_n (lv' := [(0, .inr (some (0, 0))), (1, .inr (some (6, i))), (2, .inr (some (7, i)))]) C dc_H_takeTurn_36 rfl (by decide) rfl ?_
    refine th_iconst (v := 0) C dc_H_takeTurn_37 th_c_0 ?_
    refine th_istore_n (lv' := [(0, .inr (some (0, 0))), (1, .inr (some (6, i))), (2, .inr (some (7, i))), (3, .inl ((0 : Int32)))]) C dc_H_takeTurn_38 rfl (by decide) rfl ?_
    have L39 : ∀ (N : Nat) (k : Int32) (I35 : th_I), (th_Inv (K + k.toInt) sl Z I35) → (0 ≤ k.toInt ∧ k.toInt ≤ sl) → (sl - k.toInt).toNat < N → th_G l z 6 39 [(0, .inr (some (0, 0))), (1, .inr (some (6, i))), (2, .inr (some (7, i))), (3, .inl k)] [] (th_m I35) 0 0 := by
      intro N
      induction N with
      | zero => intro k I35 hI35 h1 hm; exact absurd hm (Nat.not_lt_zero _)
      | succ N ih =>
        intro k I35 hI35 h1 hm
        refine th_iload_n C dc_H_takeTurn_39 rfl rfl ?_
        refine th_aload_n C dc_H_takeTurn_40 rfl rfl ?_
        refine tq_getI C dc_H_takeTurn_41 cl_0 fd_H_39 rfl (show 0 < 1 from by omega) (fun x36 e36 => ?_)
        have g36 : x36.toInt = (I35 0 0 6).toInt := by rw [e36]
        have r36 : x36.toInt = sl ∨ 0 < 0 := by rw [e36]; exact hI35.1 0 0 6
        refine tq_icmp_ge (tgt := 142) C dc_H_takeTurn_44 (by decide) rfl rfl (fun c37 => ?_) (fun c37 => ?_)
        · exact th_vret C hQ dc_H_takeTurn_142 (by decide) (by decide) ⟨_, rfl, rfl, (by first | exact hI35 | exact th_mono hI35 (by omega) (by omega)), trivial⟩
        · refine th_aload_n C dc_H_takeTurn_47 rfl rfl ?_
          refine tq_getI C dc_H_takeTurn_48 cl_6 fd_H_106 rfl (show i < 5 from by omega) (fun x38 e38 => ?_)
          have g38 : x38.toInt = (I35 6 i 5).toInt := by rw [e38]
          refine th_iconst (v := 1) C dc_H_takeTurn_51 th_c_1 ?_
          refine tq_icmp_eq (tgt := 56) C dc_H_takeTurn_52 (by decide) rfl th_l_1 (fun c39 => ?_) (fun c39 => ?_)
          · refine th_aload_n C dc_H_takeTurn_56 rfl rfl ?_
            refine tq_getI C dc_H_takeTurn_57 cl_6 fd_H_109 rfl (show i < 5 from by omega) (fun x40 e40 => ?_)
            have g40 : x40.toInt = (I35 6 i 6).toInt := by rw [e40]
            have r40 : 0 ≤ x40.toInt ∧ x40.toInt ≤ 24 := by rw [e40]; exact hI35.1 6 i 6
            refine th_istore (lv' := [(0, .inr (some (0, 0))), (1, .inr (some (6, i))), (2, .inr (some (7, i))), (3, .inl k), (4, .inl x40)]) C dc_H_takeTurn_60 (by decide) rfl ?_
            refine th_iload C dc_H_takeTurn_62 rfl ?_
            refine th_aload_n C dc_H_takeTurn_64 rfl rfl ?_
            refine tq_getI C dc_H_takeTurn_65 cl_7 fd_H_67 rfl (show i < 5 from by omega) (fun x41 e41 => ?_)
            have g41 : x41.toInt = (I35 7 i 3).toInt := by rw [e41]
            have r41 : 0 ≤ x41.toInt ∧ x41.toInt ≤ 24 := by rw [e41]; exact hI35.1 7 i 3
            refine tq_icmp_lt (tgt := 78) C dc_H_takeTurn_68 (by decide) rfl rfl (fun c42 => ?_) (fun c42 => ?_)
            · refine th_aload_n C dc_H_takeTurn_78 rfl rfl ?_
              refine th_aload_n C dc_H_takeTurn_79 rfl rfl ?_
              refine tq_callVv C (c_H_countInstruction l hl I35 i hI35 (by omega) (by omega)) ok_H_189 cl_0 (show 0 < 1 from by omega) rfl (Nat.le_of_ble_eq_true rfl) dc_H_takeTurn_80 rfl (fun I43 p43 => ?_)
              obtain ⟨hI43, p43⟩ := p43
              refine th_aload_n C dc_H_takeTurn_83 rfl rfl ?_
              refine th_aload_n C dc_H_takeTurn_84 rfl rfl ?_
              refine th_aload_n C dc_H_takeTurn_85 rfl rfl ?_
              refine tq_getR C dc_H_takeTurn_86 cl_7 fd_H_192 rfl (show i < 5 from by omega) rfl ?_
              refine th_iload C dc_H_takeTurn_89 rfl ?_
              obtain ⟨n45, m45⟩ := th_nat (a := x40.toInt) (by omega)
              refine tq_ialdN C dc_H_takeTurn_91 rfl (fun _ => rfl) (show i < 5 from by omega) rfl m45 (show n45 < 24 from by omega) (fun x44 e44 => ?_)
              have g44 : x44.toInt = (I43 8 i n45).toInt := by rw [e44]
              refine th_aload_n C dc_H_takeTurn_92 rfl rfl ?_
              refine tq_getR C dc_H_takeTurn_93 cl_7 fd_H_195 rfl (show i < 5 from by omega) rfl ?_
              refine th_iload C dc_H_takeTurn_96 rfl ?_
              refine tq_ialdN C dc_H_takeTurn_98 rfl (fun _ => rfl) (show i < 5 from by omega) rfl m45 (show n45 < 24 from by omega) (fun x46 e46 => ?_)
              have g46 : x46.toInt = (I43 9 i n45).toInt := by rw [e46]
              refine th_aload_n C dc_H_takeTurn_99 rfl rfl ?_
              refine tq_getR C dc_H_takeTurn_100 cl_7 fd_H_198 rfl (show i < 5 from by omega) rfl ?_
              refine th_iload C dc_H_takeTurn_103 rfl ?_
              refine tq_ialdN C dc_H_takeTurn_105 rfl (fun _ => rfl) (show i < 5 from by omega) rfl m45 (show n45 < 24 from by omega) (fun x47 e47 => ?_)
              have g47 : x47.toInt = (I43 10 i n45).toInt := by rw [e47]
              refine tq_callVi C (c_H_perform l hl I43 i x44 x46 x47 hI43 (by omega) (by rw [e44, e46, e47]; exact hI43.2.1 i n45) (by omega)) ok_H_201 cl_0 (show 0 < 1 from by omega) rfl (Nat.le_of_ble_eq_true rfl) dc_H_takeTurn_106 rfl (fun x48 I48 p48 => ?_)
              obtain ⟨hI48, p48⟩ := p48
              refine th_istore (lv' := [(0, .inr (some (0, 0))), (1, .inr (some (6, i))), (2, .inr (some (7, i))), (3, .inl k), (4, .inl x40), (5, .inl x48)]) C dc_H_takeTurn_109 (by decide) rfl ?_
              refine th_iload C dc_H_takeTurn_111 rfl ?_
              refine tq_if_eq (tgt := 123) C dc_H_takeTurn_113 (by decide) rfl (fun c49 => ?_) (fun c49 => ?_)
              · refine th_aload_n C dc_H_takeTurn_123 rfl rfl ?_
                refine tq_getR C dc_H_takeTurn_124 cl_7 fd_H_192 rfl (show i < 5 from by omega) rfl ?_
                refine th_iload C dc_H_takeTurn_127 rfl ?_
                refine tq_ialdN C dc_H_takeTurn_129 rfl (fun _ => rfl) (show i < 5 from by omega) rfl m45 (show n45 < 24 from by omega) (fun x50 e50 => ?_)
                have g50 : x50.toInt = (I48 8 i n45).toInt := by rw [e50]
                refine th_bipush (v := 20) C dc_H_takeTurn_130 th_b_20 ?_
                refine tq_icmp_ne (tgt := 136) C dc_H_takeTurn_132 (by decide) rfl th_l_20 (fun c51 => ?_) (fun c51 => ?_)
                · refine tq_iinc (lv' := fun rr => [(0, .inr (some (0, 0))), (1, .inr (some (6, i))), (2, .inr (some (7, i))), (3, .inl rr), (4, .inl x40), (5, .inl x48)]) C dc_H_takeTurn_136 rfl (by decide) th_c_1 rfl th_l_1 (fun rr => rfl) (fun x52 e52 a52 => ?_)
                  refine th_goto (tgt := 39) C dc_H_takeTurn_139 (by decide) ?_
                  refine th_sub C (lv' := [(0, .inr (some (0, 0))), (1, .inr (some (6, i))), (2, .inr (some (7, i))), (3, .inl x52)]) (fun q hq => by simp at hq ⊢; rcases hq with rfl | rfl | rfl | rfl <;> simp) ?_
                  exact ih x52 I48 (th_mono hI48 (by omega) (by omega)) (by omega) (by omega)
                · exact th_vret C hQ dc_H_takeTurn_135 (by decide) (by decide) ⟨_, rfl, rfl, (by first | exact hI48 | exact th_mono hI48 (by omega) (by omega)), trivial⟩
              · refine th_aload_n C dc_H_takeTurn_116 rfl rfl ?_
                refine th_aload_n C dc_H_takeTurn_117 rfl rfl ?_
                refine th_iload C dc_H_takeTurn_118 rfl ?_
                refine tq_callVv C (c_H_raise l hl I48 i x48 hI48 (by omega)) ok_H_182 cl_0 (show 0 < 1 from by omega) rfl (Nat.le_of_ble_eq_true rfl) dc_H_takeTurn_120 rfl (fun I53 p53 => ?_)
                obtain ⟨hI53, p53⟩ := p53
                refine th_aload_n C dc_H_takeTurn_123 rfl rfl ?_
                refine tq_getR C dc_H_takeTurn_124 cl_7 fd_H_192 rfl (show i < 5 from by omega) rfl ?_
                refine th_iload C dc_H_takeTurn_127 rfl ?_
                refine tq_ialdN C dc_H_takeTurn_129 rfl (fun _ => rfl) (show i < 5 from by omega) rfl m45 (show n45 < 24 from by omega) (fun x54 e54 => ?_)
                have g54 : x54.toInt = (I53 8 i n45).toInt := by rw [e54]
                refine th_bipush (v := 20) C dc_H_takeTurn_130 th_b_20 ?_
                refine tq_icmp_ne (tgt := 136) C dc_H_takeTurn_132 (by decide) rfl th_l_20 (fun c55 => ?_) (fun c55 => ?_)
                · refine tq_iinc (lv' := fun rr => [(0, .inr (some (0, 0))), (1, .inr (some (6, i))), (2, .inr (some (7, i))), (3, .inl rr), (4, .inl x40), (5, .inl x48)]) C dc_H_takeTurn_136 rfl (by decide) th_c_1 rfl th_l_1 (fun rr => rfl) (fun x56 e56 a56 => ?_)
                  refine th_goto (tgt := 39) C dc_H_takeTurn_139 (by decide) ?_
                  refine th_sub C (lv' := [(0, .inr (some (0, 0))), (1, .inr (some (6, i))), (2, .inr (some (7, i))), (3, .inl x56)]) (fun q hq => by simp at hq ⊢; rcases hq with rfl | rfl | rfl | rfl <;> simp) ?_
                  exact ih x56 I53 (th_mono hI53 (by omega) (by omega)) (by omega) (by omega)
                · exact th_vret C hQ dc_H_takeTurn_135 (by decide) (by decide) ⟨_, rfl, rfl, (by first | exact hI53 | exact th_mono hI53 (by omega) (by omega)), trivial⟩
            · refine th_aload_n C dc_H_takeTurn_71 rfl rfl ?_
              refine th_aload_n C dc_H_takeTurn_72 rfl rfl ?_
              refine th_iconst (v := 0) C dc_H_takeTurn_73 th_c_0 ?_
              refine tq_callVv C (c_H_finish l hl I35 i ((0 : Int32)) hI35 (by have := th_l_0; omega)) ok_H_186 cl_0 (show 0 < 1 from by omega) rfl (Nat.le_of_ble_eq_true rfl) dc_H_takeTurn_74 rfl (fun I57 p57 => ?_)
              obtain ⟨hI57, p57⟩ := p57
              try simp only [th_l_0] at p57
              exact th_vret C hQ dc_H_takeTurn_77 (by decide) (by decide) ⟨_, rfl, rfl, (by first | exact hI57 | exact th_mono hI57 (by omega) (by omega)), trivial⟩
          · exact th_vret C hQ dc_H_takeTurn_55 (by decide) (by decide) ⟨_, rfl, rfl, (by first | exact hI35 | exact th_mono hI35 (by omega) (by omega)), trivial⟩
    exact L39 _ ((0 : Int32)) I34 (th_mono hI34 (by rw [th_l_0]; omega) (by rw [th_l_0]; omega)) (by have := th_l_0; omega) (Nat.lt_succ_self _)
end
section
set_option maxRecDepth 100000 in
set_option maxHeartbeats 4000000 in
theorem c_H_run (l : Launch) (hl : l.stackTraces = false) {K sl : Int} {Z : th_I} (I : th_I) (n : Int32) (hI : th_Inv K sl Z I) (hK : K + 800 ≤ 1000000) : th_F l yn_H_run cb_H_run 5 (some .int) { frames := 7, cells := 1, slots := 6, locals := 142 } [.inr (some (0, 0)), .inl n] (th_m I) (th_rm (fun x J => th_Inv (K + 800) sl Z J ∧ (True)) (fun E J => th_Inv (K + 800) sl Z J ∧ (E = th_IAE))) := by
  refine th_of hl (by decide +kernel) (Nat.le_of_ble_eq_true rfl) (fun z C hQ hN => ?_)
  show th_G l z 5 0 [(0, .inr (some (0, 0))), (1, .inl n)] [] (th_m I) 0 0
  have hb := hI.2.2.1
  refine th_iload_n C dc_H_run_0 rfl rfl ?_
  refine th_iconst (v := 1) C dc_H_run_1 th_c_1 ?_
  refine th_bipush (v := 40) C dc_H_run_2 th_b_40 ?_
  refine tq_callSt C (c_H_requireBetween l hl I n ((1 : Int32)) ((40 : Int32))) ok_H_86 rfl (Nat.le_of_ble_eq_true rfl) dc_H_run_4 rfl (fun E pE => th_outX C hQ (fun _ h => nomatch h) (by decide) (by decide) (Or.inr ⟨E, _, rfl, rfl, th_mono hI (by omega) (by omega), pE.1⟩)) (fun p1 => ?_)
  try simp only [th_l_1, th_l_40] at p1
  refine th_aload_n C dc_H_run_7 rfl rfl ?_
  refine tq_getI C dc_H_run_8 cl_0 fd_H_89 rfl (show 0 < 1 from by omega) (fun x2 e2 => ?_)
  have g2 : x2.toInt = (I 0 0 9).toInt := by rw [e2]
  refine th_istore_n (lv' := [(0, .inr (some (0, 0))), (1, .inl n), (2, .inl x2)]) C dc_H_run_11 rfl (by decide) rfl ?_
  refine th_iconst (v := 0) C dc_H_run_12 th_c_0 ?_
  refine th_istore_n (lv' := [(0, .inr (some (0, 0))), (1, .inl n), (2, .inl x2), (3, .inl ((0 : Int32)))]) C dc_H_run_13 rfl (by decide) rfl ?_
  have L14 : ∀ (N : Nat) (k : Int32) (I3 : th_I), (th_Inv (K + 20 * k.toInt) sl Z I3) → (0 ≤ k.toInt ∧ k.toInt ≤ n.toInt) → (n.toInt - k.toInt).toNat < N → th_G l z 5 14 [(0, .inr (some (0, 0))), (1, .inl n), (2, .inl x2), (3, .inl k)] [] (th_m I3) 1 6 := by
    intro N
    induction N with
    | zero => intro k I3 hI3 h1 hm; exact absurd hm (Nat.not_lt_zero _)
    | succ N ih =>
      intro k I3 hI3 h1 hm
      refine th_iload_n C dc_H_run_14 rfl rfl ?_
      refine th_iload_n C dc_H_run_15 rfl rfl ?_
      refine tq_icmp_ge (tgt := 51) C dc_H_run_16 (by decide) rfl rfl (fun c4 => ?_) (fun c4 => ?_)
      · refine th_aload_n C dc_H_run_51 rfl rfl ?_
        refine tq_getI C dc_H_run_52 cl_0 fd_H_89 rfl (show 0 < 1 from by omega) (fun x5 e5 => ?_)
        have g5 : x5.toInt = (I3 0 0 9).toInt := by rw [e5]
        refine th_iload_n C dc_H_run_55 rfl rfl ?_
        refine tq_isub C dc_H_run_56 rfl rfl (fun x6 e6 a6 => ?_)
        exact th_iret C hQ dc_H_run_57 (by decide) (by decide) (Or.inl ⟨_, _, rfl, rfl, (by first | exact hI3 | exact th_mono hI3 (by omega) (by omega)), trivial⟩)
      · refine th_aload_n C dc_H_run_19 rfl rfl ?_
        refine tq_callVp C (c_H_nextReady l hl I3 hI3) ok_H_92 cl_0 (show 0 < 1 from by omega) rfl (Nat.le_of_ble_eq_true rfl) dc_H_run_20 rfl (fun x7 p7 => ?_)
        refine th_istore (lv' := [(0, .inr (some (0, 0))), (1, .inl n), (2, .inl x2), (3, .inl k), (4, .inl x7)]) C dc_H_run_23 (by decide) rfl ?_
        refine th_iload C dc_H_run_25 rfl ?_
        refine th_iconst (v := -1) C dc_H_run_27 th_c_m1 ?_
        refine tq_icmp_ne (tgt := 34) C dc_H_run_28 (by decide) rfl th_l_m1 (fun c8 => ?_) (fun c8 => ?_)
        · refine th_aload_n C dc_H_run_34 rfl rfl ?_
          refine th_aload_n C dc_H_run_35 rfl rfl ?_
          refine tq_getR C dc_H_run_36 cl_0 fd_H_11 rfl (show 0 < 1 from by omega) rfl ?_
          refine th_iload C dc_H_run_39 rfl ?_
          obtain ⟨n9, m9⟩ := th_nat (a := x7.toInt) (by omega)
          refine tq_aaldN C dc_H_run_41 rfl (fun _ => rfl) (show 0 < 1 from by omega) rfl m9 (show n9 < 5 from by omega) (fun _ => rfl) ?_
          refine tq_callVv C (c_H_takeTurn l hl I3 n9 hI3 (by omega) (by omega)) ok_H_96 cl_0 (show 0 < 1 from by omega) rfl (Nat.le_of_ble_eq_true rfl) dc_H_run_42 rfl (fun I10 p10 => ?_)
          obtain ⟨hI10, p10⟩ := p10
          refine tq_iinc (lv' := fun rr => [(0, .inr (some (0, 0))), (1, .inl n), (2, .inl x2), (3, .inl rr), (4, .inl x7)]) C dc_H_run_45 rfl (by decide) th_c_1 rfl th_l_1 (fun rr => rfl) (fun x11 e11 a11 => ?_)
          refine th_goto (tgt := 14) C dc_H_run_48 (by decide) ?_
          refine th_sub C (lv' := [(0, .inr (some (0, 0))), (1, .inl n), (2, .inl x2), (3, .inl x11)]) (fun q hq => by simp at hq ⊢; rcases hq with rfl | rfl | rfl | rfl <;> simp) ?_
          exact ih x11 I10 (th_mono hI10 (by omega) (by omega)) (by omega) (by omega)
        · refine th_goto (tgt := 51) C dc_H_run_31 (by decide) ?_
          refine th_aload_n C dc_H_run_51 rfl rfl ?_
          refine tq_getI C dc_H_run_52 cl_0 fd_H_89 rfl (show 0 < 1 from by omega) (fun x12 e12 => ?_)
          have g12 : x12.toInt = (I3 0 0 9).toInt := by rw [e12]
          refine th_iload_n C dc_H_run_55 rfl rfl ?_
          refine tq_isub C dc_H_run_56 rfl rfl (fun x13 e13 a13 => ?_)
          exact th_iret C hQ dc_H_run_57 (by decide) (by decide) (Or.inl ⟨_, _, rfl, rfl, (by first | exact hI3 | exact th_mono hI3 (by omega) (by omega)), trivial⟩)
  exact L14 _ ((0 : Int32)) I (th_mono hI (by rw [th_l_0]; omega) (by rw [th_l_0]; omega)) (by have := th_l_0; omega) (Nat.lt_succ_self _)

set_option maxRecDepth 100000 in
set_option maxHeartbeats 4000000 in
theorem c_H_slice (l : Launch) (hl : l.stackTraces = false) {K sl : Int} {Z : th_I} (I : th_I) (n : Int32) (hI : th_Inv K sl Z I) : th_F l yn_H_slice cb_H_slice 3 (some .int) { frames := 7, cells := 1, slots := 6, locals := 111 } [.inr (some (0, 0)), .inl n] (th_m I) (th_rm (fun x J => th_Inv K n.toInt Z J ∧ (1 ≤ n.toInt ∧ n.toInt ≤ 20) ∧ x.toInt = sl) (fun E J => (th_Inv K sl Z J ∧ E = th_IAE) ∧ ¬ (1 ≤ n.toInt ∧ n.toInt ≤ 20))) := by
  refine th_of hl (by decide +kernel) (Nat.le_of_ble_eq_true rfl) (fun z C hQ hN => ?_)
  show th_G l z 3 0 [(0, .inr (some (0, 0))), (1, .inl n)] [] (th_m I) 0 0
  have hb := hI.2.2.1
  refine th_iload_n C dc_H_slice_0 rfl rfl ?_
  refine th_iconst (v := 1) C dc_H_slice_1 th_c_1 ?_
  refine th_bipush (v := 20) C dc_H_slice_2 th_b_20 ?_
  refine tq_callSt C (c_H_requireBetween l hl I n ((1 : Int32)) ((20 : Int32))) ok_H_86 rfl (Nat.le_of_ble_eq_true rfl) dc_H_slice_4 rfl (fun E pE => th_outX C hQ (fun _ h => nomatch h) (by decide) (by decide) (Or.inr ⟨E, _, rfl, rfl, ⟨hI, pE.1⟩, by have := th_l_1; have := th_l_20; omega⟩)) (fun p1 => ?_)
  try simp only [th_l_1, th_l_20] at p1
  refine th_aload_n C dc_H_slice_7 rfl rfl ?_
  refine tq_getI C dc_H_slice_8 cl_0 fd_H_39 rfl (show 0 < 1 from by omega) (fun x2 e2 => ?_)
  have g2 : x2.toInt = (I 0 0 6).toInt := by rw [e2]
  have r2 : x2.toInt = sl ∨ 0 < 0 := by rw [e2]; exact hI.1 0 0 6
  refine th_istore_n (lv' := [(0, .inr (some (0, 0))), (1, .inl n), (2, .inl x2)]) C dc_H_slice_11 rfl (by decide) rfl ?_
  refine th_aload_n C dc_H_slice_12 rfl rfl ?_
  refine th_iload_n C dc_H_slice_13 rfl rfl ?_
  refine tq_putI C dc_H_slice_14 cl_0 fd_H_39 rfl (show 0 < 1 from by omega) rfl rfl ?_
  refine th_gen (P := fun J => J = th_u I 0 0 6 n) rfl (fun I3 u3 => ?_)
  have e3 : n = I3 0 0 6 := by rw [u3, th_u_eq]
  have g3 : n.toInt = (I3 0 0 6).toInt := by rw [← e3]
  refine th_iload_n C dc_H_slice_17 rfl rfl ?_
  exact th_iret C hQ dc_H_slice_18 (by decide) (by decide) (Or.inl ⟨_, _, rfl, rfl, (by rw [u3]; exact th_slice hI (by omega)), by omega, by omega⟩)

set_option maxRecDepth 100000 in
set_option maxHeartbeats 4000000 in
theorem c_H_add (l : Launch) (hl : l.stackTraces = false) {K sl : Int} {Z : th_I} (I : th_I) (t : Int32) (o : Int32) (a : Int32) (b : Int32) (hI : th_Inv K sl Z I) : th_F l yn_H_add cb_H_add 6 (some .int) { frames := 9, cells := 6, slots := 36, locals := 153 } [.inr (some (0, 0)), .inl t, .inl o, .inl a, .inl b] (th_m I) (th_rm (fun x J => th_Inv K sl Z J ∧ (True)) (fun E J => th_Inv K sl Z J ∧ (E = th_IAE ∨ E = th_ISE ∨ E = th_IOB))) := by
  refine th_of hl (by decide +kernel) (Nat.le_of_ble_eq_true rfl) (fun z C hQ hN => ?_)
  show th_G l z 6 0 [(0, .inr (some (0, 0))), (1, .inl t), (2, .inl o), (3, .inl a), (4, .inl b)] [] (th_m I) 0 0
  have hb := hI.2.2.1
  refine th_iload_n C dc_H_add_0 rfl rfl ?_
  refine th_iconst (v := 5) C dc_H_add_1 th_c_5 ?_
  refine tq_callSt C (c_H_requireBelow l hl I t ((5 : Int32)) (by have := th_l_5; omega)) ok_H_46 rfl (Nat.le_of_ble_eq_true rfl) dc_H_add_2 rfl (fun E pE => th_outX C hQ (fun _ h => nomatch h) (by decide) (by decide) (Or.inr ⟨E, _, rfl, rfl, hI, Or.inl pE.1⟩)) (fun p1 => ?_)
  try simp only [th_l_5] at p1
  refine th_iload_n C dc_H_add_5 rfl rfl ?_
  refine th_gets (q := th_s91) C dc_H_add_6 th_s91_in sl_H_50 ?_
  refine th_slen (q := th_s91) (v := 21) C dc_H_add_9 th_s91_in rfl ?_
  refine tq_callSt C (c_H_requireBelow l hl I o ((21 : Int32)) (by have := th_l_21; omega)) ok_H_46 rfl (Nat.le_of_ble_eq_true rfl) dc_H_add_10 rfl (fun E pE => th_outX C hQ (fun _ h => nomatch h) (by decide) (by decide) (Or.inr ⟨E, _, rfl, rfl, hI, Or.inl pE.1⟩)) (fun p2 => ?_)
  try simp only [th_l_21] at p2
  refine th_iload_n C dc_H_add_13 rfl rfl ?_
  refine th_gets (q := th_s91) C dc_H_add_14 th_s91_in sl_H_50 ?_
  refine th_iload_n C dc_H_add_17 rfl rfl ?_
  refine th_sld (q := th_s91) C dc_H_add_18 th_s91_in rfl (by omega) (show o.toInt < ((21 : Nat) : Int) from by omega) (fun n3 x3 m3 q3 e3 => ?_)
  have q3 : n3 < 21 := q3
  refine tq_callSt C (c_H_requireOperand l hl I a x3) ok_H_53 rfl (Nat.le_of_ble_eq_true rfl) dc_H_add_19 rfl (fun E pE => th_outX C hQ (fun _ h => nomatch h) (by decide) (by decide) (Or.inr ⟨E, _, rfl, rfl, hI, Or.inl pE.1⟩)) (fun p4 => ?_)
  refine th_iload C dc_H_add_22 rfl ?_
  refine th_gets (q := th_s92) C dc_H_add_24 th_s92_in sl_H_56 ?_
  refine th_iload_n C dc_H_add_27 rfl rfl ?_
  refine th_sld (q := th_s92) C dc_H_add_28 th_s92_in rfl (by omega) (show o.toInt < ((21 : Nat) : Int) from by omega) (fun n5 x5 m5 q5 e5 => ?_)
  have q5 : n5 < 21 := q5
  refine tq_callSt C (c_H_requireOperand l hl I b x5) ok_H_53 rfl (Nat.le_of_ble_eq_true rfl) dc_H_add_29 rfl (fun E pE => th_outX C hQ (fun _ h => nomatch h) (by decide) (by decide) (Or.inr ⟨E, _, rfl, rfl, hI, Or.inl pE.1⟩)) (fun p6 => ?_)
  refine th_aload_n C dc_H_add_32 rfl rfl ?_
  refine tq_getR C dc_H_add_33 cl_0 fd_H_11 rfl (show 0 < 1 from by omega) rfl ?_
  refine th_iload_n C dc_H_add_36 rfl rfl ?_
  obtain ⟨n7, m7⟩ := th_nat (a := t.toInt) (by omega)
  refine tq_aaldN C dc_H_add_37 rfl (fun _ => rfl) (show 0 < 1 from by omega) rfl m7 (show n7 < 5 from by omega) (fun _ => rfl) ?_
  refine tq_callSt C (c_H_requireNotAlive l hl I n7 (by omega)) ok_H_59 rfl (Nat.le_of_ble_eq_true rfl) dc_H_add_38 rfl (fun E pE => th_outX C hQ (fun _ h => nomatch h) (by decide) (by decide) (Or.inr ⟨E, _, rfl, rfl, hI, Or.inr (Or.inl pE.1)⟩)) (fun p8 => ?_)
  refine th_aload_n C dc_H_add_41 rfl rfl ?_
  refine tq_getR C dc_H_add_42 cl_0 fd_H_11 rfl (show 0 < 1 from by omega) rfl ?_
  refine th_iload_n C dc_H_add_45 rfl rfl ?_
  refine tq_aaldN C dc_H_add_46 rfl (fun _ => rfl) (show 0 < 1 from by omega) rfl m7 (show n7 < 5 from by omega) (fun _ => rfl) ?_
  refine tq_getR C dc_H_add_47 cl_6 fd_H_63 rfl (show n7 < 5 from by omega) rfl ?_
  refine th_astore (lv' := [(0, .inr (some (0, 0))), (1, .inl t), (2, .inl o), (3, .inl a), (4, .inl b), (5, .inr (some (7, n7)))]) C dc_H_add_50 (by decide) rfl ?_
  refine th_aload C dc_H_add_52 rfl ?_
  refine tq_getI C dc_H_add_54 cl_7 fd_H_67 rfl (show n7 < 5 from by omega) (fun x9 e9 => ?_)
  have g9 : x9.toInt = (I 7 n7 3).toInt := by rw [e9]
  have r9 : 0 ≤ x9.toInt ∧ x9.toInt ≤ 24 := by rw [e9]; exact hI.1 7 n7 3
  refine th_bipush (v := 24) C dc_H_add_57 th_b_24 ?_
  refine tq_icmp_lt (tgt := 70) C dc_H_add_59 (by decide) rfl th_l_24 (fun c10 => ?_) (fun c10 => ?_)
  · refine th_aload C dc_H_add_70 rfl ?_
    refine th_iload_n C dc_H_add_72 rfl rfl ?_
    refine th_iload_n C dc_H_add_73 rfl rfl ?_
    refine th_iload C dc_H_add_74 rfl ?_
    refine tq_callVv C (c_P_append l hl I n7 o a b hI (by omega) (th_val_of (by omega) (by omega) m3 e3 m5 e5 p4 p6)) ok_H_75 cl_7 (show n7 < 5 from by omega) rfl (Nat.le_of_ble_eq_true rfl) dc_H_add_76 rfl (fun I11 p11 => ?_)
    obtain ⟨hI11, p11⟩ := p11
    refine th_aload C dc_H_add_79 rfl ?_
    refine tq_getI C dc_H_add_81 cl_7 fd_H_67 rfl (show n7 < 5 from by omega) (fun x12 e12 => ?_)
    have g12 : x12.toInt = (I11 7 n7 3).toInt := by rw [e12]
    have r12 : 0 ≤ x12.toInt ∧ x12.toInt ≤ 24 := by rw [e12]; exact hI11.1 7 n7 3
    exact th_iret C hQ dc_H_add_84 (by decide) (by decide) (Or.inl ⟨_, _, rfl, rfl, hI11, trivial⟩)
  · exact th_throw C hQ okT_H_72 dc_H_add_62 dc_H_add_65 dc_H_add_66 dc_H_add_69 (fun _ h => nomatch h) (by decide) (by decide) (by decide) (by decide) (by decide) (by decide) rfl (Or.inr ⟨_, _, rfl, rfl, hI, Or.inr (Or.inr (rfl))⟩)

set_option maxRecDepth 100000 in
set_option maxHeartbeats 4000000 in
theorem c_H_clear (l : Launch) (hl : l.stackTraces = false) {K sl : Int} {Z : th_I} (I : th_I) (t : Int32) (hI : th_Inv K sl Z I) : th_F l yn_H_clear cb_H_clear 3 (some .int) { frames := 8, cells := 2, slots := 12, locals := 132 } [.inr (some (0, 0)), .inl t] (th_m I) (th_rm (fun x J => th_Inv K sl Z J ∧ (True)) (fun E J => th_Inv K sl Z J ∧ (E = th_IAE ∨ E = th_ISE))) := by
  refine th_of hl (by decide +kernel) (Nat.le_of_ble_eq_true rfl) (fun z C hQ hN => ?_)
  show th_G l z 3 0 [(0, .inr (some (0, 0))), (1, .inl t)] [] (th_m I) 0 0
  have hb := hI.2.2.1
  refine th_iload_n C dc_H_clear_0 rfl rfl ?_
  refine th_iconst (v := 5) C dc_H_clear_1 th_c_5 ?_
  refine tq_callSt C (c_H_requireBelow l hl I t ((5 : Int32)) (by have := th_l_5; omega)) ok_H_46 rfl (Nat.le_of_ble_eq_true rfl) dc_H_clear_2 rfl (fun E pE => th_outX C hQ (fun _ h => nomatch h) (by decide) (by decide) (Or.inr ⟨E, _, rfl, rfl, hI, Or.inl pE.1⟩)) (fun p1 => ?_)
  try simp only [th_l_5] at p1
  refine th_aload_n C dc_H_clear_5 rfl rfl ?_
  refine tq_getR C dc_H_clear_6 cl_0 fd_H_11 rfl (show 0 < 1 from by omega) rfl ?_
  refine th_iload_n C dc_H_clear_9 rfl rfl ?_
  obtain ⟨n2, m2⟩ := th_nat (a := t.toInt) (by omega)
  refine tq_aaldN C dc_H_clear_10 rfl (fun _ => rfl) (show 0 < 1 from by omega) rfl m2 (show n2 < 5 from by omega) (fun _ => rfl) ?_
  refine tq_callSt C (c_H_requireNotAlive l hl I n2 (by omega)) ok_H_59 rfl (Nat.le_of_ble_eq_true rfl) dc_H_clear_11 rfl (fun E pE => th_outX C hQ (fun _ h => nomatch h) (by decide) (by decide) (Or.inr ⟨E, _, rfl, rfl, hI, Or.inr (pE.1)⟩)) (fun p3 => ?_)
  refine th_aload_n C dc_H_clear_14 rfl rfl ?_
  refine tq_getR C dc_H_clear_15 cl_0 fd_H_11 rfl (show 0 < 1 from by omega) rfl ?_
  refine th_iload_n C dc_H_clear_18 rfl rfl ?_
  refine tq_aaldN C dc_H_clear_19 rfl (fun _ => rfl) (show 0 < 1 from by omega) rfl m2 (show n2 < 5 from by omega) (fun _ => rfl) ?_
  refine tq_getR C dc_H_clear_20 cl_6 fd_H_63 rfl (show n2 < 5 from by omega) rfl ?_
  refine tq_getI C dc_H_clear_23 cl_7 fd_H_67 rfl (show n2 < 5 from by omega) (fun x4 e4 => ?_)
  have g4 : x4.toInt = (I 7 n2 3).toInt := by rw [e4]
  have r4 : 0 ≤ x4.toInt ∧ x4.toInt ≤ 24 := by rw [e4]; exact hI.1 7 n2 3
  refine th_istore_n (lv' := [(0, .inr (some (0, 0))), (1, .inl t), (2, .inl x4)]) C dc_H_clear_26 rfl (by decide) rfl ?_
  refine th_aload_n C dc_H_clear_27 rfl rfl ?_
  refine tq_getR C dc_H_clear_28 cl_0 fd_H_11 rfl (show 0 < 1 from by omega) rfl ?_
  refine th_iload_n C dc_H_clear_31 rfl rfl ?_
  refine tq_aaldN C dc_H_clear_32 rfl (fun _ => rfl) (show 0 < 1 from by omega) rfl m2 (show n2 < 5 from by omega) (fun _ => rfl) ?_
  refine tq_getR C dc_H_clear_33 cl_6 fd_H_63 rfl (show n2 < 5 from by omega) rfl ?_
  refine th_iconst (v := 0) C dc_H_clear_36 th_c_0 ?_
  refine tq_putI C dc_H_clear_37 cl_7 fd_H_67 rfl (show n2 < 5 from by omega) rfl rfl ?_
  refine th_gen (P := fun J => th_Inv K sl Z J ∧ J = th_u I 7 n2 3 ((0 : Int32))) ⟨th_put hI (by decide) (show 0 ≤ (0 : Int32).toInt ∧ (0 : Int32).toInt ≤ 24 from by rw [th_l_0]; omega), rfl⟩ (fun I5 hI5 => ?_)
  obtain ⟨hI5, u5⟩ := hI5
  have e5 : (0 : Int32) = I5 7 n2 3 := by rw [u5, th_u_eq]
  have g5 : 0 = (I5 7 n2 3).toInt := by rw [← e5]; exact th_l_0.symm
  refine th_iload_n C dc_H_clear_40 rfl rfl ?_
  exact th_iret C hQ dc_H_clear_41 (by decide) (by decide) (Or.inl ⟨_, _, rfl, rfl, hI5, trivial⟩)

set_option maxRecDepth 100000 in
set_option maxHeartbeats 4000000 in
theorem c_H_start (l : Launch) (hl : l.stackTraces = false) {K sl : Int} {Z : th_I} (I : th_I) (t : Int32) (hI : th_Inv K sl Z I) : th_F l yn_H_start cb_H_start 2 (some .int) { frames := 8, cells := 1, slots := 6, locals := 132 } [.inr (some (0, 0)), .inl t] (th_m I) (th_rm (fun x J => th_Inv K sl Z J ∧ (True)) (fun E J => th_Inv K sl Z J ∧ (E = th_IAE))) := by
  refine th_of hl (by decide +kernel) (Nat.le_of_ble_eq_true rfl) (fun z C hQ hN => ?_)
  show th_G l z 2 0 [(0, .inr (some (0, 0))), (1, .inl t)] [] (th_m I) 0 0
  have hb := hI.2.2.1
  refine th_iload_n C dc_H_start_0 rfl rfl ?_
  refine th_iconst (v := 5) C dc_H_start_1 th_c_5 ?_
  refine tq_callSt C (c_H_requireBelow l hl I t ((5 : Int32)) (by have := th_l_5; omega)) ok_H_46 rfl (Nat.le_of_ble_eq_true rfl) dc_H_start_2 rfl (fun E pE => th_outX C hQ (fun _ h => nomatch h) (by decide) (by decide) (Or.inr ⟨E, _, rfl, rfl, hI, pE.1⟩)) (fun p1 => ?_)
  try simp only [th_l_5] at p1
  refine th_aload_n C dc_H_start_5 rfl rfl ?_
  refine tq_getR C dc_H_start_6 cl_0 fd_H_11 rfl (show 0 < 1 from by omega) rfl ?_
  refine th_iload_n C dc_H_start_9 rfl rfl ?_
  obtain ⟨n2, m2⟩ := th_nat (a := t.toInt) (by omega)
  refine tq_aaldN C dc_H_start_10 rfl (fun _ => rfl) (show 0 < 1 from by omega) rfl m2 (show n2 < 5 from by omega) (fun _ => rfl) ?_
  refine tq_callVp C (c_S_isAlive l hl I n2 (by omega)) ok_H_79 cl_6 (show n2 < 5 from by omega) rfl (Nat.le_of_ble_eq_true rfl) dc_H_start_11 rfl (fun x3 p3 => ?_)
  refine tq_if_eq (tgt := 19) C dc_H_start_14 (by decide) rfl (fun c4 => ?_) (fun c4 => ?_)
  · refine th_aload_n C dc_H_start_19 rfl rfl ?_
    refine tq_getR C dc_H_start_20 cl_0 fd_H_11 rfl (show 0 < 1 from by omega) rfl ?_
    refine th_iload_n C dc_H_start_23 rfl rfl ?_
    refine tq_aaldN C dc_H_start_24 rfl (fun _ => rfl) (show 0 < 1 from by omega) rfl m2 (show n2 < 5 from by omega) (fun _ => rfl) ?_
    refine tq_callVv C (c_S_beginAnew l hl I n2 hI (by omega)) ok_H_83 cl_6 (show n2 < 5 from by omega) rfl (Nat.le_of_ble_eq_true rfl) dc_H_start_25 rfl (fun I5 p5 => ?_)
    obtain ⟨hI5, p5⟩ := p5
    refine th_iconst (v := 1) C dc_H_start_28 th_c_1 ?_
    exact th_iret C hQ dc_H_start_29 (by decide) (by decide) (Or.inl ⟨_, _, rfl, rfl, hI5, trivial⟩)
  · refine th_iconst (v := 0) C dc_H_start_17 th_c_0 ?_
    exact th_iret C hQ dc_H_start_18 (by decide) (by decide) (Or.inl ⟨_, _, rfl, rfl, hI, trivial⟩)

set_option maxRecDepth 100000 in
set_option maxHeartbeats 4000000 in
theorem c_H_interrupt (l : Launch) (hl : l.stackTraces = false) {K sl : Int} {Z : th_I} (I : th_I) (t : Int32) (hI : th_Inv K sl Z I) : th_F l yn_H_interrupt cb_H_interrupt 2 (some .int) { frames := 8, cells := 1, slots := 6, locals := 132 } [.inr (some (0, 0)), .inl t] (th_m I) (th_rm (fun x J => th_Inv K sl Z J ∧ (True)) (fun E J => th_Inv K sl Z J ∧ (E = th_IAE))) := by
  refine th_of hl (by decide +kernel) (Nat.le_of_ble_eq_true rfl) (fun z C hQ hN => ?_)
  show th_G l z 2 0 [(0, .inr (some (0, 0))), (1, .inl t)] [] (th_m I) 0 0
  have hb := hI.2.2.1
  refine th_iload_n C dc_H_interrupt_0 rfl rfl ?_
  refine th_iconst (v := 5) C dc_H_interrupt_1 th_c_5 ?_
  refine tq_callSt C (c_H_requireBelow l hl I t ((5 : Int32)) (by have := th_l_5; omega)) ok_H_46 rfl (Nat.le_of_ble_eq_true rfl) dc_H_interrupt_2 rfl (fun E pE => th_outX C hQ (fun _ h => nomatch h) (by decide) (by decide) (Or.inr ⟨E, _, rfl, rfl, hI, pE.1⟩)) (fun p1 => ?_)
  try simp only [th_l_5] at p1
  refine th_aload_n C dc_H_interrupt_5 rfl rfl ?_
  refine tq_getR C dc_H_interrupt_6 cl_0 fd_H_11 rfl (show 0 < 1 from by omega) rfl ?_
  refine th_iload_n C dc_H_interrupt_9 rfl rfl ?_
  obtain ⟨n2, m2⟩ := th_nat (a := t.toInt) (by omega)
  refine tq_aaldN C dc_H_interrupt_10 rfl (fun _ => rfl) (show 0 < 1 from by omega) rfl m2 (show n2 < 5 from by omega) (fun _ => rfl) ?_
  refine tq_callVp C (c_S_isAlive l hl I n2 (by omega)) ok_H_79 cl_6 (show n2 < 5 from by omega) rfl (Nat.le_of_ble_eq_true rfl) dc_H_interrupt_11 rfl (fun x3 p3 => ?_)
  refine tq_if_ne (tgt := 19) C dc_H_interrupt_14 (by decide) rfl (fun c4 => ?_) (fun c4 => ?_)
  · refine th_aload_n C dc_H_interrupt_19 rfl rfl ?_
    refine th_aload_n C dc_H_interrupt_20 rfl rfl ?_
    refine tq_getR C dc_H_interrupt_21 cl_0 fd_H_11 rfl (show 0 < 1 from by omega) rfl ?_
    refine th_iload_n C dc_H_interrupt_24 rfl rfl ?_
    refine tq_aaldN C dc_H_interrupt_25 rfl (fun _ => rfl) (show 0 < 1 from by omega) rfl m2 (show n2 < 5 from by omega) (fun _ => rfl) ?_
    refine tq_callVv C (c_H_interruptAlive l hl I n2 hI (by omega)) ok_H_99 cl_0 (show 0 < 1 from by omega) rfl (Nat.le_of_ble_eq_true rfl) dc_H_interrupt_26 rfl (fun I5 p5 => ?_)
    obtain ⟨hI5, p5⟩ := p5
    refine th_iconst (v := 1) C dc_H_interrupt_29 th_c_1 ?_
    exact th_iret C hQ dc_H_interrupt_30 (by decide) (by decide) (Or.inl ⟨_, _, rfl, rfl, hI5, trivial⟩)
  · refine th_iconst (v := 0) C dc_H_interrupt_17 th_c_0 ?_
    exact th_iret C hQ dc_H_interrupt_18 (by decide) (by decide) (Or.inl ⟨_, _, rfl, rfl, hI, trivial⟩)

set_option maxRecDepth 100000 in
set_option maxHeartbeats 4000000 in
theorem c_H_global (l : Launch) (hl : l.stackTraces = false) {K sl : Int} {Z : th_I} (I : th_I) (s : Int32) (v : Int32) (hI : th_Inv K sl Z I) : th_F l yn_H_global cb_H_global 4 (some .int) { frames := 8, cells := 1, slots := 6, locals := 132 } [.inr (some (0, 0)), .inl s, .inl v] (th_m I) (th_rm (fun x J => th_Inv K sl Z J ∧ (True)) (fun E J => th_Inv K sl Z J ∧ (E = th_IAE))) := by
  refine th_of hl (by decide +kernel) (Nat.le_of_ble_eq_true rfl) (fun z C hQ hN => ?_)
  show th_G l z 4 0 [(0, .inr (some (0, 0))), (1, .inl s), (2, .inl v)] [] (th_m I) 0 0
  have hb := hI.2.2.1
  refine th_iload_n C dc_H_global_0 rfl rfl ?_
  refine th_iconst (v := 4) C dc_H_global_1 th_c_4 ?_
  refine tq_callSt C (c_H_requireBelow l hl I s ((4 : Int32)) (by have := th_l_4; omega)) ok_H_46 rfl (Nat.le_of_ble_eq_true rfl) dc_H_global_2 rfl (fun E pE => th_outX C hQ (fun _ h => nomatch h) (by decide) (by decide) (Or.inr ⟨E, _, rfl, rfl, hI, pE.1⟩)) (fun p1 => ?_)
  try simp only [th_l_4] at p1
  refine th_aload_n C dc_H_global_5 rfl rfl ?_
  refine tq_getR C dc_H_global_6 cl_0 fd_H_32 rfl (show 0 < 1 from by omega) rfl ?_
  refine th_iload_n C dc_H_global_9 rfl rfl ?_
  obtain ⟨n3, m3⟩ := th_nat (a := s.toInt) (by omega)
  refine tq_ialdN C dc_H_global_10 rfl (fun _ => rfl) (show 0 < 1 from by omega) rfl m3 (show n3 < 4 from by omega) (fun x2 e2 => ?_)
  have g2 : x2.toInt = (I 4 0 n3).toInt := by rw [e2]
  refine th_istore_n (lv' := [(0, .inr (some (0, 0))), (1, .inl s), (2, .inl v), (3, .inl x2)]) C dc_H_global_11 rfl (by decide) rfl ?_
  refine th_aload_n C dc_H_global_12 rfl rfl ?_
  refine tq_getR C dc_H_global_13 cl_0 fd_H_32 rfl (show 0 < 1 from by omega) rfl ?_
  refine th_iload_n C dc_H_global_16 rfl rfl ?_
  refine th_iload_n C dc_H_global_17 rfl rfl ?_
  refine tq_iastN C dc_H_global_18 rfl (fun _ => rfl) (show 0 < 1 from by omega) rfl m3 (show n3 < 4 from by omega) ?_
  refine th_gen (P := fun J => th_Inv K sl Z J ∧ J = th_u I 4 0 n3 v) ⟨th_put hI (by decide) trivial, rfl⟩ (fun I4 hI4 => ?_)
  obtain ⟨hI4, u4⟩ := hI4
  have e4 : v = I4 4 0 n3 := by rw [u4, th_u_eq]
  have g4 : v.toInt = (I4 4 0 n3).toInt := by rw [← e4]
  refine th_iload_n C dc_H_global_19 rfl rfl ?_
  exact th_iret C hQ dc_H_global_20 (by decide) (by decide) (Or.inl ⟨_, _, rfl, rfl, hI4, trivial⟩)

set_option maxRecDepth 100000 in
set_option maxHeartbeats 4000000 in
theorem c_H_special (l : Launch) (hl : l.stackTraces = false) {K sl : Int} {Z : th_I} (I : th_I) (t : Int32) (s : Int32) (hI : th_Inv K sl Z I) : th_F l yn_H_special cb_H_special 3 (some .int) { frames := 8, cells := 2, slots := 12, locals := 132 } [.inr (some (0, 0)), .inl t, .inl s] (th_m I) (th_rm (fun x J => th_Inv K sl Z J ∧ (True)) (fun E J => th_Inv K sl Z J ∧ (E = th_IAE))) := by
  refine th_of hl (by decide +kernel) (Nat.le_of_ble_eq_true rfl) (fun z C hQ hN => ?_)
  show th_G l z 3 0 [(0, .inr (some (0, 0))), (1, .inl t), (2, .inl s)] [] (th_m I) 0 0
  have hb := hI.2.2.1
  refine th_iload_n C dc_H_special_0 rfl rfl ?_
  refine th_iconst (v := 5) C dc_H_special_1 th_c_5 ?_
  refine tq_callSt C (c_H_requireBelow l hl I t ((5 : Int32)) (by have := th_l_5; omega)) ok_H_46 rfl (Nat.le_of_ble_eq_true rfl) dc_H_special_2 rfl (fun E pE => th_outX C hQ (fun _ h => nomatch h) (by decide) (by decide) (Or.inr ⟨E, _, rfl, rfl, hI, pE.1⟩)) (fun p1 => ?_)
  try simp only [th_l_5] at p1
  refine th_iload_n C dc_H_special_5 rfl rfl ?_
  refine th_iconst (v := 4) C dc_H_special_6 th_c_4 ?_
  refine tq_callSt C (c_H_requireBelow l hl I s ((4 : Int32)) (by have := th_l_4; omega)) ok_H_46 rfl (Nat.le_of_ble_eq_true rfl) dc_H_special_7 rfl (fun E pE => th_outX C hQ (fun _ h => nomatch h) (by decide) (by decide) (Or.inr ⟨E, _, rfl, rfl, hI, pE.1⟩)) (fun p2 => ?_)
  try simp only [th_l_4] at p2
  refine th_aload_n C dc_H_special_10 rfl rfl ?_
  refine th_aload_n C dc_H_special_11 rfl rfl ?_
  refine tq_getR C dc_H_special_12 cl_0 fd_H_11 rfl (show 0 < 1 from by omega) rfl ?_
  refine th_iload_n C dc_H_special_15 rfl rfl ?_
  obtain ⟨n3, m3⟩ := th_nat (a := t.toInt) (by omega)
  refine tq_aaldN C dc_H_special_16 rfl (fun _ => rfl) (show 0 < 1 from by omega) rfl m3 (show n3 < 5 from by omega) (fun _ => rfl) ?_
  refine th_iload_n C dc_H_special_17 rfl rfl ?_
  refine tq_callVp C (c_H_read l hl I n3 s hI (by omega) (by omega)) ok_H_102 cl_0 (show 0 < 1 from by omega) rfl (Nat.le_of_ble_eq_true rfl) dc_H_special_18 rfl (fun x4 p4 => ?_)
  exact th_iret C hQ dc_H_special_21 (by decide) (by decide) (Or.inl ⟨_, _, rfl, rfl, hI, trivial⟩)

set_option maxRecDepth 100000 in
set_option maxHeartbeats 4000000 in
theorem c_H_look (l : Launch) (hl : l.stackTraces = false) {K sl : Int} {Z : th_I} (I : th_I) (t : Int32) (w : Int32) (hI : th_Inv K sl Z I) : th_F l yn_H_look cb_H_look 4 (some .int) { frames := 8, cells := 2, slots := 12, locals := 132 } [.inr (some (0, 0)), .inl t, .inl w] (th_m I) (th_rm (fun x J => th_Inv K sl Z J ∧ (True)) (fun E J => th_Inv K sl Z J ∧ (E = th_IAE))) := by
  refine th_of hl (by decide +kernel) (Nat.le_of_ble_eq_true rfl) (fun z C hQ hN => ?_)
  show th_G l z 4 0 [(0, .inr (some (0, 0))), (1, .inl t), (2, .inl w)] [] (th_m I) 0 0
  have hb := hI.2.2.1
  refine th_iload_n C dc_H_look_0 rfl rfl ?_
  refine th_iconst (v := 5) C dc_H_look_1 th_c_5 ?_
  refine tq_callSt C (c_H_requireBelow l hl I t ((5 : Int32)) (by have := th_l_5; omega)) ok_H_46 rfl (Nat.le_of_ble_eq_true rfl) dc_H_look_2 rfl (fun E pE => th_outX C hQ (fun _ h => nomatch h) (by decide) (by decide) (Or.inr ⟨E, _, rfl, rfl, hI, pE.1⟩)) (fun p1 => ?_)
  try simp only [th_l_5] at p1
  refine th_aload_n C dc_H_look_5 rfl rfl ?_
  refine tq_getR C dc_H_look_6 cl_0 fd_H_11 rfl (show 0 < 1 from by omega) rfl ?_
  refine th_iload_n C dc_H_look_9 rfl rfl ?_
  obtain ⟨n2, m2⟩ := th_nat (a := t.toInt) (by omega)
  refine tq_aaldN C dc_H_look_10 rfl (fun _ => rfl) (show 0 < 1 from by omega) rfl m2 (show n2 < 5 from by omega) (fun _ => rfl) ?_
  refine th_astore_n (lv' := [(0, .inr (some (0, 0))), (1, .inl t), (2, .inl w), (3, .inr (some (6, n2)))]) C dc_H_look_11 rfl (by decide) rfl ?_
  refine th_iload_n C dc_H_look_12 rfl rfl ?_
  have w3 : w.toInt = 0 ∨ w.toInt = 1 ∨ w.toInt = 2 ∨ w.toInt = 3 ∨ w.toInt = 4 ∨ w.toInt = 5 ∨ w.toInt = 6 ∨ w.toInt = 7 ∨ w.toInt = 8 ∨ w.toInt = 9 ∨ (w.toInt < 0 ∨ 9 < w.toInt) := by omega
  rcases w3 with w3 | w3 | w3 | w3 | w3 | w3 | w3 | w3 | w3 | w3 | w3
  · refine th_tableIn (tgt := 68) C dc_H_look_13 (by omega) (by omega) (by rw [w3]; rfl) (by decide) ?_
    refine th_aload_n C dc_H_look_68 rfl rfl ?_
    refine tq_getI C dc_H_look_69 cl_6 fd_H_106 rfl (show n2 < 5 from by omega) (fun x4 e4 => ?_)
    have g4 : x4.toInt = (I 6 n2 5).toInt := by rw [e4]
    exact th_iret C hQ dc_H_look_72 (by decide) (by decide) (Or.inl ⟨_, _, rfl, rfl, hI, trivial⟩)
  · refine th_tableIn (tgt := 73) C dc_H_look_13 (by omega) (by omega) (by rw [w3]; rfl) (by decide) ?_
    refine th_aload_n C dc_H_look_73 rfl rfl ?_
    refine tq_getI C dc_H_look_74 cl_6 fd_H_109 rfl (show n2 < 5 from by omega) (fun x5 e5 => ?_)
    have g5 : x5.toInt = (I 6 n2 6).toInt := by rw [e5]
    have r5 : 0 ≤ x5.toInt ∧ x5.toInt ≤ 24 := by rw [e5]; exact hI.1 6 n2 6
    exact th_iret C hQ dc_H_look_77 (by decide) (by decide) (Or.inl ⟨_, _, rfl, rfl, hI, trivial⟩)
  · refine th_tableIn (tgt := 78) C dc_H_look_13 (by omega) (by omega) (by rw [w3]; rfl) (by decide) ?_
    refine th_aload_n C dc_H_look_78 rfl rfl ?_
    refine tq_getI C dc_H_look_79 cl_6 fd_H_112 rfl (show n2 < 5 from by omega) (fun x6 e6 => ?_)
    have g6 : x6.toInt = (I 6 n2 7).toInt := by rw [e6]
    exact th_iret C hQ dc_H_look_82 (by decide) (by decide) (Or.inl ⟨_, _, rfl, rfl, hI, trivial⟩)
  · refine th_tableIn (tgt := 83) C dc_H_look_13 (by omega) (by omega) (by rw [w3]; rfl) (by decide) ?_
    refine th_aload_n C dc_H_look_83 rfl rfl ?_
    refine tq_getR C dc_H_look_84 cl_6 fd_H_115 rfl (show n2 < 5 from by omega) rfl ?_
    refine tq_getI C dc_H_look_87 cl_11 fd_H_119 rfl (show 2 * n2 < 10 from by omega) (fun x7 e7 => ?_)
    have g7 : x7.toInt = (I 11 (2 * n2) 2).toInt := by rw [e7]
    have r7 : 0 ≤ x7.toInt ∧ x7.toInt ≤ (th_lp (2 * n2) : Int) := by rw [e7]; exact hI.1 11 (2 * n2) 2
    exact th_iret C hQ dc_H_look_90 (by decide) (by decide) (Or.inl ⟨_, _, rfl, rfl, hI, trivial⟩)
  · refine th_tableIn (tgt := 91) C dc_H_look_13 (by omega) (by omega) (by rw [w3]; rfl) (by decide) ?_
    refine th_aload_n C dc_H_look_91 rfl rfl ?_
    refine tq_getR C dc_H_look_92 cl_6 fd_H_122 rfl (show n2 < 5 from by omega) rfl ?_
    refine tq_getI C dc_H_look_95 cl_11 fd_H_119 rfl (show 2 * n2 + 1 < 10 from by omega) (fun x8 e8 => ?_)
    have g8 : x8.toInt = (I 11 (2 * n2 + 1) 2).toInt := by rw [e8]
    have r8 : 0 ≤ x8.toInt ∧ x8.toInt ≤ (th_lp (2 * n2 + 1) : Int) := by rw [e8]; exact hI.1 11 (2 * n2 + 1) 2
    exact th_iret C hQ dc_H_look_98 (by decide) (by decide) (Or.inl ⟨_, _, rfl, rfl, hI, trivial⟩)
  · refine th_tableIn (tgt := 99) C dc_H_look_13 (by omega) (by omega) (by rw [w3]; rfl) (by decide) ?_
    refine th_aload_n C dc_H_look_99 rfl rfl ?_
    refine tq_getI C dc_H_look_100 cl_6 fd_H_125 rfl (show n2 < 5 from by omega) (fun x9 e9 => ?_)
    have g9 : x9.toInt = (I 6 n2 11).toInt := by rw [e9]
    refine tq_if_eq (tgt := 110) C dc_H_look_103 (by decide) rfl (fun c10 => ?_) (fun c10 => ?_)
    · refine th_iconst (v := 0) C dc_H_look_110 th_c_0 ?_
      exact th_iret C hQ dc_H_look_111 (by decide) (by decide) (Or.inl ⟨_, _, rfl, rfl, hI, trivial⟩)
    · refine th_iconst (v := 1) C dc_H_look_106 th_c_1 ?_
      refine th_goto (tgt := 111) C dc_H_look_107 (by decide) ?_
      exact th_iret C hQ dc_H_look_111 (by decide) (by decide) (Or.inl ⟨_, _, rfl, rfl, hI, trivial⟩)
  · refine th_tableIn (tgt := 112) C dc_H_look_13 (by omega) (by omega) (by rw [w3]; rfl) (by decide) ?_
    refine th_aload_n C dc_H_look_112 rfl rfl ?_
    refine tq_getI C dc_H_look_113 cl_6 fd_H_129 rfl (show n2 < 5 from by omega) (fun x11 e11 => ?_)
    have g11 : x11.toInt = (I 6 n2 8).toInt := by rw [e11]
    have r11 : 0 ≤ x11.toInt ∧ x11.toInt ≤ 24 := by rw [e11]; exact hI.1 6 n2 8
    exact th_iret C hQ dc_H_look_116 (by decide) (by decide) (Or.inl ⟨_, _, rfl, rfl, hI, trivial⟩)
  · refine th_tableIn (tgt := 117) C dc_H_look_13 (by omega) (by omega) (by rw [w3]; rfl) (by decide) ?_
    refine th_aload_n C dc_H_look_117 rfl rfl ?_
    refine tq_getI C dc_H_look_118 cl_6 fd_H_132 rfl (show n2 < 5 from by omega) (fun x12 e12 => ?_)
    have g12 : x12.toInt = (I 6 n2 9).toInt := by rw [e12]
    exact th_iret C hQ dc_H_look_121 (by decide) (by decide) (Or.inl ⟨_, _, rfl, rfl, hI, trivial⟩)
  · refine th_tableIn (tgt := 122) C dc_H_look_13 (by omega) (by omega) (by rw [w3]; rfl) (by decide) ?_
    refine th_aload_n C dc_H_look_122 rfl rfl ?_
    refine tq_getI C dc_H_look_123 cl_6 fd_H_135 rfl (show n2 < 5 from by omega) (fun x13 e13 => ?_)
    have g13 : x13.toInt = (I 6 n2 10).toInt := by rw [e13]
    exact th_iret C hQ dc_H_look_126 (by decide) (by decide) (Or.inl ⟨_, _, rfl, rfl, hI, trivial⟩)
  · refine th_tableIn (tgt := 127) C dc_H_look_13 (by omega) (by omega) (by rw [w3]; rfl) (by decide) ?_
    refine th_aload_n C dc_H_look_127 rfl rfl ?_
    refine tq_getR C dc_H_look_128 cl_6 fd_H_138 rfl (show n2 < 5 from by omega) rfl ?_
    refine tq_getI C dc_H_look_131 cl_14 fd_H_142 rfl (show n2 < 11 from by omega) (fun x14 e14 => ?_)
    have g14 : x14.toInt = (I 14 n2 1).toInt := by rw [e14]
    have r14 : 0 ≤ x14.toInt ∧ x14.toInt ≤ 5 := by rw [e14]; exact hI.1 14 n2 1
    exact th_iret C hQ dc_H_look_134 (by decide) (by decide) (Or.inl ⟨_, _, rfl, rfl, hI, trivial⟩)
  · refine th_tableOut (tgt := 135) C dc_H_look_13 w3 (by decide) ?_
    exact th_throw C hQ okT_H_143 dc_H_look_135 dc_H_look_138 dc_H_look_139 dc_H_look_142 (fun _ h => nomatch h) (by decide) (by decide) (by decide) (by decide) (by decide) (by decide) rfl (Or.inr ⟨_, _, rfl, rfl, hI, rfl⟩)

set_option maxRecDepth 100000 in
set_option maxHeartbeats 4000000 in
theorem c_H_lock (l : Launch) (hl : l.stackTraces = false) {K sl : Int} {Z : th_I} (I : th_I) (m : Int32) (w : Int32) (hI : th_Inv K sl Z I) : th_F l yn_H_lock cb_H_lock 3 (some .int) { frames := 8, cells := 2, slots := 12, locals := 132 } [.inr (some (0, 0)), .inl m, .inl w] (th_m I) (th_rm (fun x J => th_Inv K sl Z J ∧ (True)) (fun E J => th_Inv K sl Z J ∧ (E = th_IAE))) := by
  refine th_of hl (by decide +kernel) (Nat.le_of_ble_eq_true rfl) (fun z C hQ hN => ?_)
  show th_G l z 3 0 [(0, .inr (some (0, 0))), (1, .inl m), (2, .inl w)] [] (th_m I) 0 0
  have hb := hI.2.2.1
  refine th_iload_n C dc_H_lock_0 rfl rfl ?_
  refine th_iconst (v := 3) C dc_H_lock_1 th_c_3 ?_
  refine tq_callSt C (c_H_requireBelow l hl I m ((3 : Int32)) (by have := th_l_3; omega)) ok_H_46 rfl (Nat.le_of_ble_eq_true rfl) dc_H_lock_2 rfl (fun E pE => th_outX C hQ (fun _ h => nomatch h) (by decide) (by decide) (Or.inr ⟨E, _, rfl, rfl, hI, pE.1⟩)) (fun p1 => ?_)
  try simp only [th_l_3] at p1
  refine th_iload_n C dc_H_lock_5 rfl rfl ?_
  have w2 : w.toInt = 0 ∨ w.toInt = 1 ∨ w.toInt = 2 ∨ w.toInt = 3 ∨ (w.toInt < 0 ∨ 3 < w.toInt) := by omega
  rcases w2 with w2 | w2 | w2 | w2 | w2
  · refine th_tableIn (tgt := 36) C dc_H_lock_6 (by omega) (by omega) (by rw [w2]; rfl) (by decide) ?_
    refine th_aload_n C dc_H_lock_36 rfl rfl ?_
    refine tq_getR C dc_H_lock_37 cl_0 fd_H_20 rfl (show 0 < 1 from by omega) rfl ?_
    refine th_iload_n C dc_H_lock_40 rfl rfl ?_
    obtain ⟨n3, m3⟩ := th_nat (a := m.toInt) (by omega)
    refine tq_aaldN C dc_H_lock_41 rfl (fun _ => rfl) (show 0 < 1 from by omega) rfl m3 (show n3 < 3 from by omega) (fun _ => rfl) ?_
    refine tq_getI C dc_H_lock_42 cl_16 fd_H_146 rfl (show n3 < 3 from by omega) (fun x4 e4 => ?_)
    have g4 : x4.toInt = (I 16 n3 1).toInt := by rw [e4]
    exact th_iret C hQ dc_H_lock_45 (by decide) (by decide) (Or.inl ⟨_, _, rfl, rfl, hI, trivial⟩)
  · refine th_tableIn (tgt := 46) C dc_H_lock_6 (by omega) (by omega) (by rw [w2]; rfl) (by decide) ?_
    refine th_aload_n C dc_H_lock_46 rfl rfl ?_
    refine tq_getR C dc_H_lock_47 cl_0 fd_H_20 rfl (show 0 < 1 from by omega) rfl ?_
    refine th_iload_n C dc_H_lock_50 rfl rfl ?_
    obtain ⟨n5, m5⟩ := th_nat (a := m.toInt) (by omega)
    refine tq_aaldN C dc_H_lock_51 rfl (fun _ => rfl) (show 0 < 1 from by omega) rfl m5 (show n5 < 3 from by omega) (fun _ => rfl) ?_
    refine tq_getI C dc_H_lock_52 cl_16 fd_H_149 rfl (show n5 < 3 from by omega) (fun x6 e6 => ?_)
    have g6 : x6.toInt = (I 16 n5 2).toInt := by rw [e6]
    exact th_iret C hQ dc_H_lock_55 (by decide) (by decide) (Or.inl ⟨_, _, rfl, rfl, hI, trivial⟩)
  · refine th_tableIn (tgt := 56) C dc_H_lock_6 (by omega) (by omega) (by rw [w2]; rfl) (by decide) ?_
    refine th_aload_n C dc_H_lock_56 rfl rfl ?_
    refine tq_getR C dc_H_lock_57 cl_0 fd_H_20 rfl (show 0 < 1 from by omega) rfl ?_
    refine th_iload_n C dc_H_lock_60 rfl rfl ?_
    obtain ⟨n7, m7⟩ := th_nat (a := m.toInt) (by omega)
    refine tq_aaldN C dc_H_lock_61 rfl (fun _ => rfl) (show 0 < 1 from by omega) rfl m7 (show n7 < 3 from by omega) (fun _ => rfl) ?_
    refine tq_getR C dc_H_lock_62 cl_16 fd_H_152 rfl (show n7 < 3 from by omega) rfl ?_
    refine tq_getI C dc_H_lock_65 cl_14 fd_H_142 rfl (show 5 + n7 < 11 from by omega) (fun x8 e8 => ?_)
    have g8 : x8.toInt = (I 14 (5 + n7) 1).toInt := by rw [e8]
    have r8 : 0 ≤ x8.toInt ∧ x8.toInt ≤ 5 := by rw [e8]; exact hI.1 14 (5 + n7) 1
    exact th_iret C hQ dc_H_lock_68 (by decide) (by decide) (Or.inl ⟨_, _, rfl, rfl, hI, trivial⟩)
  · refine th_tableIn (tgt := 69) C dc_H_lock_6 (by omega) (by omega) (by rw [w2]; rfl) (by decide) ?_
    refine th_aload_n C dc_H_lock_69 rfl rfl ?_
    refine tq_getR C dc_H_lock_70 cl_0 fd_H_27 rfl (show 0 < 1 from by omega) rfl ?_
    refine th_iload_n C dc_H_lock_73 rfl rfl ?_
    obtain ⟨n9, m9⟩ := th_nat (a := m.toInt) (by omega)
    refine tq_aaldN C dc_H_lock_74 rfl (fun _ => rfl) (show 0 < 1 from by omega) rfl m9 (show n9 < 3 from by omega) (fun _ => rfl) ?_
    refine tq_getI C dc_H_lock_75 cl_14 fd_H_142 rfl (show 8 + n9 < 11 from by omega) (fun x10 e10 => ?_)
    have g10 : x10.toInt = (I 14 (8 + n9) 1).toInt := by rw [e10]
    have r10 : 0 ≤ x10.toInt ∧ x10.toInt ≤ 5 := by rw [e10]; exact hI.1 14 (8 + n9) 1
    exact th_iret C hQ dc_H_lock_78 (by decide) (by decide) (Or.inl ⟨_, _, rfl, rfl, hI, trivial⟩)
  · refine th_tableOut (tgt := 79) C dc_H_lock_6 w2 (by decide) ?_
    exact th_throw C hQ okT_H_143 dc_H_lock_79 dc_H_lock_82 dc_H_lock_83 dc_H_lock_86 (fun _ h => nomatch h) (by decide) (by decide) (by decide) (by decide) (by decide) (by decide) rfl (Or.inr ⟨_, _, rfl, rfl, hI, rfl⟩)

set_option maxRecDepth 100000 in
set_option maxHeartbeats 4000000 in
theorem c_H_said (l : Launch) (hl : l.stackTraces = false) {K sl : Int} {Z : th_I} (I : th_I) (k : Int32) (hI : th_Inv K sl Z I) : th_F l yn_H_said cb_H_said 2 (some .int) { frames := 6, cells := 1, slots := 6, locals := 89 } [.inr (some (0, 0)), .inl k] (th_m I) (th_rm (fun x J => th_Inv K sl Z J ∧ (True)) (fun E J => th_Inv K sl Z J ∧ (E = th_IOB))) := by
  refine th_of hl (by decide +kernel) (Nat.le_of_ble_eq_true rfl) (fun z C hQ hN => ?_)
  show th_G l z 2 0 [(0, .inr (some (0, 0))), (1, .inl k)] [] (th_m I) 0 0
  have hb := hI.2.2.1
  refine th_iload_n C dc_H_said_0 rfl rfl ?_
  refine tq_if_lt (tgt := 18) C dc_H_said_1 (by decide) rfl (fun c1 => ?_) (fun c1 => ?_)
  · exact th_throw C hQ okT_H_72 dc_H_said_18 dc_H_said_21 dc_H_said_22 dc_H_said_25 (fun _ h => nomatch h) (by decide) (by decide) (by decide) (by decide) (by decide) (by decide) rfl (Or.inr ⟨_, _, rfl, rfl, hI, rfl⟩)
  · refine th_iload_n C dc_H_said_4 rfl rfl ?_
    refine th_aload_n C dc_H_said_5 rfl rfl ?_
    refine tq_getI C dc_H_said_6 cl_0 fd_H_155 rfl (show 0 < 1 from by omega) (fun x2 e2 => ?_)
    have g2 : x2.toInt = (I 0 0 5).toInt := by rw [e2]
    have r2 : 0 ≤ x2.toInt ∧ x2.toInt ≤ K := by rw [e2]; exact hI.1 0 0 5
    refine tq_icmp_ge (tgt := 18) C dc_H_said_9 (by decide) rfl rfl (fun c3 => ?_) (fun c3 => ?_)
    · exact th_throw C hQ okT_H_72 dc_H_said_18 dc_H_said_21 dc_H_said_22 dc_H_said_25 (fun _ h => nomatch h) (by decide) (by decide) (by decide) (by decide) (by decide) (by decide) rfl (Or.inr ⟨_, _, rfl, rfl, hI, rfl⟩)
    · refine th_iload_n C dc_H_said_12 rfl rfl ?_
      refine th_bipush (v := 40) C dc_H_said_13 th_b_40 ?_
      refine tq_icmp_lt (tgt := 26) C dc_H_said_15 (by decide) rfl th_l_40 (fun c4 => ?_) (fun c4 => ?_)
      · refine th_aload_n C dc_H_said_26 rfl rfl ?_
        refine tq_getR C dc_H_said_27 cl_0 fd_H_36 rfl (show 0 < 1 from by omega) rfl ?_
        refine th_iload_n C dc_H_said_30 rfl rfl ?_
        obtain ⟨n6, m6⟩ := th_nat (a := k.toInt) (by omega)
        refine tq_ialdN C dc_H_said_31 rfl (fun _ => rfl) (show 0 < 1 from by omega) rfl m6 (show n6 < 40 from by omega) (fun x5 e5 => ?_)
        have g5 : x5.toInt = (I 5 0 n6).toInt := by rw [e5]
        exact th_iret C hQ dc_H_said_32 (by decide) (by decide) (Or.inl ⟨_, _, rfl, rfl, hI, trivial⟩)
      · exact th_throw C hQ okT_H_72 dc_H_said_18 dc_H_said_21 dc_H_said_22 dc_H_said_25 (fun _ h => nomatch h) (by decide) (by decide) (by decide) (by decide) (by decide) (by decide) rfl (Or.inr ⟨_, _, rfl, rfl, hI, rfl⟩)

set_option maxRecDepth 100000 in
set_option maxHeartbeats 4000000 in
theorem c_H_count (l : Launch) (hl : l.stackTraces = false) {K sl : Int} {Z : th_I} (I : th_I) (w : Int32) (hI : th_Inv K sl Z I) : th_F l yn_H_count cb_H_count 2 (some .int) { frames := 6, cells := 1, slots := 6, locals := 89 } [.inr (some (0, 0)), .inl w] (th_m I) (th_rm (fun x J => th_Inv K sl Z J ∧ (True)) (fun E J => th_Inv K sl Z J ∧ (E = th_IAE))) := by
  refine th_of hl (by decide +kernel) (Nat.le_of_ble_eq_true rfl) (fun z C hQ hN => ?_)
  show th_G l z 2 0 [(0, .inr (some (0, 0))), (1, .inl w)] [] (th_m I) 0 0
  have hb := hI.2.2.1
  refine th_iload_n C dc_H_count_0 rfl rfl ?_
  have w1 : w.toInt = 0 ∨ w.toInt = 1 ∨ w.toInt = 2 ∨ w.toInt = 3 ∨ w.toInt = 4 ∨ w.toInt = 5 ∨ w.toInt = 6 ∨ w.toInt = 7 ∨ (w.toInt < 0 ∨ 7 < w.toInt) := by omega
  rcases w1 with w1 | w1 | w1 | w1 | w1 | w1 | w1 | w1 | w1
  · refine th_tableIn (tgt := 48) C dc_H_count_1 (by omega) (by omega) (by rw [w1]; rfl) (by decide) ?_
    refine th_aload_n C dc_H_count_48 rfl rfl ?_
    refine tq_getI C dc_H_count_49 cl_0 fd_H_155 rfl (show 0 < 1 from by omega) (fun x2 e2 => ?_)
    have g2 : x2.toInt = (I 0 0 5).toInt := by rw [e2]
    have r2 : 0 ≤ x2.toInt ∧ x2.toInt ≤ K := by rw [e2]; exact hI.1 0 0 5
    exact th_iret C hQ dc_H_count_52 (by decide) (by decide) (Or.inl ⟨_, _, rfl, rfl, hI, trivial⟩)
  · refine th_tableIn (tgt := 53) C dc_H_count_1 (by omega) (by omega) (by rw [w1]; rfl) (by decide) ?_
    refine th_aload_n C dc_H_count_53 rfl rfl ?_
    refine tq_getI C dc_H_count_54 cl_0 fd_H_89 rfl (show 0 < 1 from by omega) (fun x3 e3 => ?_)
    have g3 : x3.toInt = (I 0 0 9).toInt := by rw [e3]
    exact th_iret C hQ dc_H_count_57 (by decide) (by decide) (Or.inl ⟨_, _, rfl, rfl, hI, trivial⟩)
  · refine th_tableIn (tgt := 58) C dc_H_count_1 (by omega) (by omega) (by rw [w1]; rfl) (by decide) ?_
    refine th_aload_n C dc_H_count_58 rfl rfl ?_
    refine tq_getI C dc_H_count_59 cl_0 fd_H_158 rfl (show 0 < 1 from by omega) (fun x4 e4 => ?_)
    have g4 : x4.toInt = (I 0 0 8).toInt := by rw [e4]
    exact th_iret C hQ dc_H_count_62 (by decide) (by decide) (Or.inl ⟨_, _, rfl, rfl, hI, trivial⟩)
  · refine th_tableIn (tgt := 63) C dc_H_count_1 (by omega) (by omega) (by rw [w1]; rfl) (by decide) ?_
    refine th_aload_n C dc_H_count_63 rfl rfl ?_
    refine tq_callVp C (c_H_aliveCount l hl I hI) ok_H_161 cl_0 (show 0 < 1 from by omega) rfl (Nat.le_of_ble_eq_true rfl) dc_H_count_64 rfl (fun x5 p5 => ?_)
    exact th_iret C hQ dc_H_count_67 (by decide) (by decide) (Or.inl ⟨_, _, rfl, rfl, hI, trivial⟩)
  · refine th_tableIn (tgt := 68) C dc_H_count_1 (by omega) (by omega) (by rw [w1]; rfl) (by decide) ?_
    refine th_aload_n C dc_H_count_68 rfl rfl ?_
    refine tq_callVp C (c_H_readyCount l hl I hI) ok_H_164 cl_0 (show 0 < 1 from by omega) rfl (Nat.le_of_ble_eq_true rfl) dc_H_count_69 rfl (fun x6 p6 => ?_)
    exact th_iret C hQ dc_H_count_72 (by decide) (by decide) (Or.inl ⟨_, _, rfl, rfl, hI, trivial⟩)
  · refine th_tableIn (tgt := 73) C dc_H_count_1 (by omega) (by omega) (by rw [w1]; rfl) (by decide) ?_
    refine th_aload_n C dc_H_count_73 rfl rfl ?_
    refine tq_getI C dc_H_count_74 cl_0 fd_H_167 rfl (show 0 < 1 from by omega) (fun x7 e7 => ?_)
    have g7 : x7.toInt = (I 0 0 10).toInt := by rw [e7]
    exact th_iret C hQ dc_H_count_77 (by decide) (by decide) (Or.inl ⟨_, _, rfl, rfl, hI, trivial⟩)
  · refine th_tableIn (tgt := 78) C dc_H_count_1 (by omega) (by omega) (by rw [w1]; rfl) (by decide) ?_
    refine th_aload_n C dc_H_count_78 rfl rfl ?_
    refine tq_getI C dc_H_count_79 cl_0 fd_H_43 rfl (show 0 < 1 from by omega) (fun x8 e8 => ?_)
    have g8 : x8.toInt = (I 0 0 7).toInt := by rw [e8]
    have r8 : -1 ≤ x8.toInt ∧ x8.toInt ≤ 4 := by rw [e8]; exact hI.1 0 0 7
    exact th_iret C hQ dc_H_count_82 (by decide) (by decide) (Or.inl ⟨_, _, rfl, rfl, hI, trivial⟩)
  · refine th_tableIn (tgt := 83) C dc_H_count_1 (by omega) (by omega) (by rw [w1]; rfl) (by decide) ?_
    refine th_aload_n C dc_H_count_83 rfl rfl ?_
    refine tq_getI C dc_H_count_84 cl_0 fd_H_170 rfl (show 0 < 1 from by omega) (fun x9 e9 => ?_)
    have g9 : x9.toInt = (I 0 0 11).toInt := by rw [e9]
    exact th_iret C hQ dc_H_count_87 (by decide) (by decide) (Or.inl ⟨_, _, rfl, rfl, hI, trivial⟩)
  · refine th_tableOut (tgt := 88) C dc_H_count_1 w1 (by decide) ?_
    exact th_throw C hQ okT_H_143 dc_H_count_88 dc_H_count_91 dc_H_count_92 dc_H_count_95 (fun _ h => nomatch h) (by decide) (by decide) (by decide) (by decide) (by decide) (by decide) rfl (Or.inr ⟨_, _, rfl, rfl, hI, rfl⟩)
end
section
def ro_ok (K sl : Int) (t i k : Nat) (v : Int) : Prop := match t with
  | 20 => (match k with
    | 33 => v = sl ∨ 0 < i
    | _ => True)
  | 24 => 0 ≤ v ∧ v ≤ 24
  | 28 => 0 ≤ v ∧ v ≤ 12
  | 29 => 0 ≤ v ∧ v ≤ 3
  | 31 => 0 ≤ v ∧ v ≤ 4
  | 33 => 0 ≤ v ∧ v ≤ 24
  | 35 => 0 ≤ v ∧ v ≤ 24
  | 38 => 0 ≤ v ∧ v ≤ 2
  | 40 => 0 ≤ v ∧ v ≤ 4
  | 41 => 0 ≤ v ∧ v ≤ 3
  | 46 => 0 ≤ v ∧ v ≤ 4
  | 47 => 0 ≤ v ∧ v ≤ 5
  | 48 => 0 ≤ v ∧ v ≤ 4
  | 49 => 0 ≤ v ∧ v ≤ 5
  | 50 => 0 ≤ v ∧ v ≤ 4
  | 51 => 0 ≤ v ∧ v ≤ 5
  | 53 => (match k with
    | 0 => 0 ≤ v ∧ v ≤ K
    | 6 => -1 ≤ v ∧ v ≤ 4
    | _ => True)
  | _ => True
def ro_in (I : th_I) (rt mt r : Nat) (t : Int) : Prop := ∃ k : Nat, k < 5 ∧ (k : Int) < (I mt 0 r).toInt ∧ (I rt 0 (5 * r + k)).toInt = t
def ro_R (I : th_I) (rt mt kt : Nat) (S : Int) (w : Nat) : Prop :=
  (∀ r : Nat, r < w → ∀ k : Nat, k < 5 → (k : Int) < (I mt 0 r).toInt → ∀ e : Nat, (I rt 0 (5 * r + k)).toInt = (e : Int) → (I 32 0 e).toInt = S ∧ (I kt 0 e).toInt = (r : Int)) ∧
  (∀ r : Nat, r < w → ∀ k1 k2 : Nat, k1 < k2 → k2 < 5 → (k2 : Int) < (I mt 0 r).toInt → (I rt 0 (5 * r + k1)).toInt ≠ (I rt 0 (5 * r + k2)).toInt)
def ro_RW (I : th_I) : Prop := ro_R I 46 47 38 2 3 ∧ ro_R I 48 49 40 3 3 ∧ ro_R I 50 51 40 4 5 ∧ ∀ n : Nat, n < 5 → (I 32 0 n).toInt = 3 → (I 40 0 n).toInt ≤ 2
def th_OI (K sl : Int) (Z I : th_I) : Prop := (∀ t i k, ro_ok K sl t i k (I t i k).toInt) ∧ (∀ k, th_valid (I 21 0 k).toInt (I 22 0 k).toInt (I 23 0 k).toInt) ∧ (1 ≤ sl ∧ sl ≤ 20 ∧ 0 ≤ K ∧ K ≤ 1000000) ∧ (∀ t i k, t < 20 → I t i k = Z t i k) ∧ ro_RW I
def ro_tag (t : Nat) : Bool := Nat.ble 20 t && !(t == 21 || t == 22 || t == 23 || t == 32 || t == 38 || t == 40 || t == 46 || t == 47 || t == 48 || t == 49 || t == 50 || t == 51)
theorem ro_tag_ne {t a : Nat} (h : ro_tag t = true) (ha : ro_tag a = false) : a ≠ t := by
  rintro rfl
  rw [h] at ha
  cases ha
theorem ro_R_frame {I J : th_I} {rt mt kt : Nat} {S : Int} {w : Nat} (h : ro_R I rt mt kt S w) (h1 : ∀ k, J rt 0 k = I rt 0 k) (h2 : ∀ k, J mt 0 k = I mt 0 k) (h3 : ∀ k, J kt 0 k = I kt 0 k) (h4 : ∀ k, J 32 0 k = I 32 0 k) : ro_R J rt mt kt S w := by
  unfold ro_R at h ⊢
  simp only [h1, h2, h3, h4]
  exact h
theorem ro_RW_frame {I J : th_I} (h : ro_RW I) (hj : ∀ t k, ro_tag t = false → 20 ≤ t → J t 0 k = I t 0 k) : ro_RW J := by
  obtain ⟨a, b, c, d⟩ := h
  refine ⟨ro_R_frame a (fun k => hj _ k rfl (by decide)) (fun k => hj _ k rfl (by decide)) (fun k => hj _ k rfl (by decide)) (fun k => hj _ k rfl (by decide)), ro_R_frame b (fun k => hj _ k rfl (by decide)) (fun k => hj _ k rfl (by decide)) (fun k => hj _ k rfl (by decide)) (fun k => hj _ k rfl (by decide)), ro_R_frame c (fun k => hj _ k rfl (by decide)) (fun k => hj _ k rfl (by decide)) (fun k => hj _ k rfl (by decide)) (fun k => hj _ k rfl (by decide)), fun n hn => ?_⟩
  rw [hj 32 n rfl (by decide), hj 40 n rfl (by decide)]
  exact d n hn
theorem ro_put {K sl : Int} {Z I : th_I} {t i k : Nat} {v : Int32} (hI : th_OI K sl Z I) (ht : ro_tag t = true) (h : ro_ok K sl t i k v.toInt) : th_OI K sl Z (th_u I t i k v) := by
  obtain ⟨h1, h2, h3, h4, h5⟩ := hI
  have ht20 : 20 ≤ t := by
    unfold ro_tag at ht
    simp only [Bool.and_eq_true, Nat.ble_eq] at ht
    exact ht.1
  refine ⟨fun t' i' k' => ?_, fun k' => ?_, h3, fun t' i' k' q => by rw [th_u_tag (by omega)]; exact h4 t' i' k' q, ro_RW_frame h5 (fun t' k' q _ => th_u_tag (ro_tag_ne ht q))⟩
  · rcases th_u_or I t i k v t' i' k' with ⟨rfl, rfl, rfl, e⟩ | e
    · rw [e]; exact h
    · rw [e]; exact h1 t' i' k'
  · rw [th_u_tag (ro_tag_ne ht rfl), th_u_tag (ro_tag_ne ht rfl), th_u_tag (ro_tag_ne ht rfl)]
    exact h2 k'
theorem ro_ok_mono {K K' sl v : Int} {t i k : Nat} (h : ro_ok K sl t i k v) (hK : K ≤ K') : ro_ok K' sl t i k v := by
  unfold ro_ok at h ⊢
  split at h <;> first | exact h | (split at h <;> first | exact h | exact ⟨h.1, Int.le_trans h.2 hK⟩)
theorem ro_mono {K K' sl : Int} {Z I : th_I} (hI : th_OI K sl Z I) (hK : K ≤ K') (h2 : K' ≤ 1000000) : th_OI K' sl Z I := by
  obtain ⟨h1, g2, ⟨h3, h4, h5, h6⟩, h7⟩ := hI
  exact ⟨fun t i k => ro_ok_mono (h1 t i k) hK, g2, ⟨h3, h4, Int.le_trans h5 hK, h2⟩, h7⟩
theorem ro_ok_sl {K sl sl' v : Int} {t i k : Nat} (h : ro_ok K sl t i k v) (q : ¬ (t = 20 ∧ k = 33)) : ro_ok K sl' t i k v := by
  unfold ro_ok at h ⊢
  split at h <;> first | exact h | (split at h <;> first | exact h | (exact absurd ⟨rfl, rfl⟩ q))
theorem ro_slice {K sl : Int} {Z I : th_I} {n : Int32} (hI : th_OI K sl Z I) (h : 1 ≤ n.toInt ∧ n.toInt ≤ 20) : th_OI K n.toInt Z (th_u I 20 0 33 n) := by
  obtain ⟨h1, h2, h3, h4, h5⟩ := hI
  refine ⟨fun t' i' k' => ?_, fun k' => ?_, ⟨h.1, h.2, h3.2.2.1, h3.2.2.2⟩, fun t' i' k' q => by rw [th_u_tag (by omega)]; exact h4 t' i' k' q, ro_RW_frame h5 (fun t' k' q _ => th_u_tag (ro_tag_ne rfl q))⟩
  · by_cases q : t' = 20 ∧ k' = 33
    · obtain ⟨rfl, rfl⟩ := q
      by_cases q2 : i' = 0
      · subst q2
        rw [th_u_eq]
        exact Or.inl rfl
      · exact Or.inr (by omega)
    · rcases th_u_or I 20 0 33 n t' i' k' with ⟨rfl, rfl, rfl, e⟩ | e
      · exact absurd ⟨rfl, rfl⟩ q
      · rw [e]
        exact ro_ok_sl (h1 t' i' k') q
  · rw [th_u_tag (by decide), th_u_tag (by decide), th_u_tag (by decide)]
    exact h2 k'
end
section
theorem th_b_12 : (Int8.ofInt 12).toInt32 = 12 := by decide
theorem th_l_12 : (12 : Int32).toInt = 12 := by decide
theorem th_b_39 : (Int8.ofInt 39).toInt32 = 39 := by decide
theorem th_l_39 : (39 : Int32).toInt = 39 := by decide
theorem dc_O_is_0 : decode cb_O_is 0 = .ok (.iload_n 0, 1) := by decide +kernel
theorem dc_O_is_1 : decode cb_O_is 1 = .ok (.iload_n 1, 1) := by decide +kernel
theorem dc_O_is_2 : decode cb_O_is 2 = .ok (.if_icmp .lt 12, 3) := by decide +kernel
theorem dc_O_is_5 : decode cb_O_is 5 = .ok (.iload_n 0, 1) := by decide +kernel
theorem dc_O_is_6 : decode cb_O_is 6 = .ok (.iload_n 2, 1) := by decide +kernel
theorem dc_O_is_7 : decode cb_O_is 7 = .ok (.if_icmp .gt 7, 3) := by decide +kernel
theorem dc_O_is_10 : decode cb_O_is 10 = .ok (.iconst 1, 1) := by decide +kernel
theorem dc_O_is_11 : decode cb_O_is 11 = .ok (.goto 4, 3) := by decide +kernel
theorem dc_O_is_14 : decode cb_O_is 14 = .ok (.iconst 0, 1) := by decide +kernel
theorem dc_O_is_15 : decode cb_O_is 15 = .ok (.ireturn, 1) := by decide +kernel
theorem dc_O_fits_0 : decode cb_O_fits 0 = .ok (.iload_n 0, 1) := by decide +kernel
theorem dc_O_fits_1 : decode cb_O_fits 1 = .ok (.tableswitch 245 0 19 #[95, 95, 102, 95, 95, 126, 126, 133, 157, 126, 126, 181, 188, 181, 212, 95, 212, 220, 95, 95], 95) := by decide +kernel
theorem dc_O_fits_96 : decode cb_O_fits 96 = .ok (.iload_n 1, 1) := by decide +kernel
theorem dc_O_fits_97 : decode cb_O_fits 97 = .ok (.iconst 0, 1) := by decide +kernel
theorem dc_O_fits_98 : decode cb_O_fits 98 = .ok (.iconst 3, 1) := by decide +kernel
theorem dc_O_fits_99 : decode cb_O_fits 99 = .ok (.invokestatic 117, 3) := by decide +kernel
theorem dc_O_fits_102 : decode cb_O_fits 102 = .ok (.ireturn, 1) := by decide +kernel
theorem dc_O_fits_103 : decode cb_O_fits 103 = .ok (.iload_n 1, 1) := by decide +kernel
theorem dc_O_fits_104 : decode cb_O_fits 104 = .ok (.iconst 0, 1) := by decide +kernel
theorem dc_O_fits_105 : decode cb_O_fits 105 = .ok (.iconst 3, 1) := by decide +kernel
theorem dc_O_fits_106 : decode cb_O_fits 106 = .ok (.invokestatic 117, 3) := by decide +kernel
theorem dc_O_fits_109 : decode cb_O_fits 109 = .ok (.ifCond .eq 16, 3) := by decide +kernel
theorem dc_O_fits_112 : decode cb_O_fits 112 = .ok (.iload_n 2, 1) := by decide +kernel
theorem dc_O_fits_113 : decode cb_O_fits 113 = .ok (.iconst 0, 1) := by decide +kernel
theorem dc_O_fits_114 : decode cb_O_fits 114 = .ok (.iconst 3, 1) := by decide +kernel
theorem dc_O_fits_115 : decode cb_O_fits 115 = .ok (.invokestatic 117, 3) := by decide +kernel
theorem dc_O_fits_118 : decode cb_O_fits 118 = .ok (.ifCond .eq 7, 3) := by decide +kernel
theorem dc_O_fits_121 : decode cb_O_fits 121 = .ok (.iconst 1, 1) := by decide +kernel
theorem dc_O_fits_122 : decode cb_O_fits 122 = .ok (.goto 4, 3) := by decide +kernel
theorem dc_O_fits_125 : decode cb_O_fits 125 = .ok (.iconst 0, 1) := by decide +kernel
theorem dc_O_fits_126 : decode cb_O_fits 126 = .ok (.ireturn, 1) := by decide +kernel
theorem dc_O_fits_127 : decode cb_O_fits 127 = .ok (.iload_n 1, 1) := by decide +kernel
theorem dc_O_fits_128 : decode cb_O_fits 128 = .ok (.iconst 0, 1) := by decide +kernel
theorem dc_O_fits_129 : decode cb_O_fits 129 = .ok (.iconst 2, 1) := by decide +kernel
theorem dc_O_fits_130 : decode cb_O_fits 130 = .ok (.invokestatic 117, 3) := by decide +kernel
theorem dc_O_fits_133 : decode cb_O_fits 133 = .ok (.ireturn, 1) := by decide +kernel
theorem dc_O_fits_134 : decode cb_O_fits 134 = .ok (.iload_n 1, 1) := by decide +kernel
theorem dc_O_fits_135 : decode cb_O_fits 135 = .ok (.iconst 0, 1) := by decide +kernel
theorem dc_O_fits_136 : decode cb_O_fits 136 = .ok (.iconst 2, 1) := by decide +kernel
theorem dc_O_fits_137 : decode cb_O_fits 137 = .ok (.invokestatic 117, 3) := by decide +kernel
theorem dc_O_fits_140 : decode cb_O_fits 140 = .ok (.ifCond .eq 16, 3) := by decide +kernel
theorem dc_O_fits_143 : decode cb_O_fits 143 = .ok (.iload_n 2, 1) := by decide +kernel
theorem dc_O_fits_144 : decode cb_O_fits 144 = .ok (.iconst 0, 1) := by decide +kernel
theorem dc_O_fits_145 : decode cb_O_fits 145 = .ok (.iconst 3, 1) := by decide +kernel
theorem dc_O_fits_146 : decode cb_O_fits 146 = .ok (.invokestatic 117, 3) := by decide +kernel
theorem dc_O_fits_149 : decode cb_O_fits 149 = .ok (.ifCond .eq 7, 3) := by decide +kernel
theorem dc_O_fits_152 : decode cb_O_fits 152 = .ok (.iconst 1, 1) := by decide +kernel
theorem dc_O_fits_153 : decode cb_O_fits 153 = .ok (.goto 4, 3) := by decide +kernel
theorem dc_O_fits_156 : decode cb_O_fits 156 = .ok (.iconst 0, 1) := by decide +kernel
theorem dc_O_fits_157 : decode cb_O_fits 157 = .ok (.ireturn, 1) := by decide +kernel
theorem dc_O_fits_158 : decode cb_O_fits 158 = .ok (.iload_n 1, 1) := by decide +kernel
theorem dc_O_fits_159 : decode cb_O_fits 159 = .ok (.iconst 0, 1) := by decide +kernel
theorem dc_O_fits_160 : decode cb_O_fits 160 = .ok (.iconst 2, 1) := by decide +kernel
theorem dc_O_fits_161 : decode cb_O_fits 161 = .ok (.invokestatic 117, 3) := by decide +kernel
theorem dc_O_fits_164 : decode cb_O_fits 164 = .ok (.ifCond .eq 16, 3) := by decide +kernel
theorem dc_O_fits_167 : decode cb_O_fits 167 = .ok (.iload_n 2, 1) := by decide +kernel
theorem dc_O_fits_168 : decode cb_O_fits 168 = .ok (.iconst 0, 1) := by decide +kernel
theorem dc_O_fits_169 : decode cb_O_fits 169 = .ok (.iconst 2, 1) := by decide +kernel
theorem dc_O_fits_170 : decode cb_O_fits 170 = .ok (.invokestatic 117, 3) := by decide +kernel
theorem dc_O_fits_173 : decode cb_O_fits 173 = .ok (.ifCond .eq 7, 3) := by decide +kernel
theorem dc_O_fits_176 : decode cb_O_fits 176 = .ok (.iconst 1, 1) := by decide +kernel
theorem dc_O_fits_177 : decode cb_O_fits 177 = .ok (.goto 4, 3) := by decide +kernel
theorem dc_O_fits_180 : decode cb_O_fits 180 = .ok (.iconst 0, 1) := by decide +kernel
theorem dc_O_fits_181 : decode cb_O_fits 181 = .ok (.ireturn, 1) := by decide +kernel
theorem dc_O_fits_182 : decode cb_O_fits 182 = .ok (.iload_n 1, 1) := by decide +kernel
theorem dc_O_fits_183 : decode cb_O_fits 183 = .ok (.iconst 0, 1) := by decide +kernel
theorem dc_O_fits_184 : decode cb_O_fits 184 = .ok (.iconst 4, 1) := by decide +kernel
theorem dc_O_fits_185 : decode cb_O_fits 185 = .ok (.invokestatic 117, 3) := by decide +kernel
theorem dc_O_fits_188 : decode cb_O_fits 188 = .ok (.ireturn, 1) := by decide +kernel
theorem dc_O_fits_189 : decode cb_O_fits 189 = .ok (.iload_n 1, 1) := by decide +kernel
theorem dc_O_fits_190 : decode cb_O_fits 190 = .ok (.iconst 0, 1) := by decide +kernel
theorem dc_O_fits_191 : decode cb_O_fits 191 = .ok (.iconst 4, 1) := by decide +kernel
theorem dc_O_fits_192 : decode cb_O_fits 192 = .ok (.invokestatic 117, 3) := by decide +kernel
theorem dc_O_fits_195 : decode cb_O_fits 195 = .ok (.ifCond .eq 16, 3) := by decide +kernel
theorem dc_O_fits_198 : decode cb_O_fits 198 = .ok (.iload_n 2, 1) := by decide +kernel
theorem dc_O_fits_199 : decode cb_O_fits 199 = .ok (.iconst 0, 1) := by decide +kernel
theorem dc_O_fits_200 : decode cb_O_fits 200 = .ok (.iconst 3, 1) := by decide +kernel
theorem dc_O_fits_201 : decode cb_O_fits 201 = .ok (.invokestatic 117, 3) := by decide +kernel
theorem dc_O_fits_204 : decode cb_O_fits 204 = .ok (.ifCond .eq 7, 3) := by decide +kernel
theorem dc_O_fits_207 : decode cb_O_fits 207 = .ok (.iconst 1, 1) := by decide +kernel
theorem dc_O_fits_208 : decode cb_O_fits 208 = .ok (.goto 4, 3) := by decide +kernel
theorem dc_O_fits_211 : decode cb_O_fits 211 = .ok (.iconst 0, 1) := by decide +kernel
theorem dc_O_fits_212 : decode cb_O_fits 212 = .ok (.ireturn, 1) := by decide +kernel
theorem dc_O_fits_213 : decode cb_O_fits 213 = .ok (.iload_n 1, 1) := by decide +kernel
theorem dc_O_fits_214 : decode cb_O_fits 214 = .ok (.iconst 0, 1) := by decide +kernel
theorem dc_O_fits_215 : decode cb_O_fits 215 = .ok (.bipush 24, 2) := by decide +kernel
theorem dc_O_fits_217 : decode cb_O_fits 217 = .ok (.invokestatic 117, 3) := by decide +kernel
theorem dc_O_fits_220 : decode cb_O_fits 220 = .ok (.ireturn, 1) := by decide +kernel
theorem dc_O_fits_221 : decode cb_O_fits 221 = .ok (.iload_n 1, 1) := by decide +kernel
theorem dc_O_fits_222 : decode cb_O_fits 222 = .ok (.iconst 0, 1) := by decide +kernel
theorem dc_O_fits_223 : decode cb_O_fits 223 = .ok (.iconst 3, 1) := by decide +kernel
theorem dc_O_fits_224 : decode cb_O_fits 224 = .ok (.invokestatic 117, 3) := by decide +kernel
theorem dc_O_fits_227 : decode cb_O_fits 227 = .ok (.ifCond .eq 17, 3) := by decide +kernel
theorem dc_O_fits_230 : decode cb_O_fits 230 = .ok (.iload_n 2, 1) := by decide +kernel
theorem dc_O_fits_231 : decode cb_O_fits 231 = .ok (.iconst 0, 1) := by decide +kernel
theorem dc_O_fits_232 : decode cb_O_fits 232 = .ok (.bipush 24, 2) := by decide +kernel
theorem dc_O_fits_234 : decode cb_O_fits 234 = .ok (.invokestatic 117, 3) := by decide +kernel
theorem dc_O_fits_237 : decode cb_O_fits 237 = .ok (.ifCond .eq 7, 3) := by decide +kernel
theorem dc_O_fits_240 : decode cb_O_fits 240 = .ok (.iconst 1, 1) := by decide +kernel
theorem dc_O_fits_241 : decode cb_O_fits 241 = .ok (.goto 4, 3) := by decide +kernel
theorem dc_O_fits_244 : decode cb_O_fits 244 = .ok (.iconst 0, 1) := by decide +kernel
theorem dc_O_fits_245 : decode cb_O_fits 245 = .ok (.ireturn, 1) := by decide +kernel
theorem dc_O_fits_246 : decode cb_O_fits 246 = .ok (.iload_n 0, 1) := by decide +kernel
theorem dc_O_fits_247 : decode cb_O_fits 247 = .ok (.bipush 20, 2) := by decide +kernel
theorem dc_O_fits_249 : decode cb_O_fits 249 = .ok (.if_icmp .ne 7, 3) := by decide +kernel
theorem dc_O_fits_252 : decode cb_O_fits 252 = .ok (.iconst 1, 1) := by decide +kernel
theorem dc_O_fits_253 : decode cb_O_fits 253 = .ok (.goto 4, 3) := by decide +kernel
theorem dc_O_fits_256 : decode cb_O_fits 256 = .ok (.iconst 0, 1) := by decide +kernel
theorem dc_O_fits_257 : decode cb_O_fits 257 = .ok (.ireturn, 1) := by decide +kernel
theorem dc_O_refuse_0 : decode cb_O_refuse 0 = .ok (.aload_n 0, 1) := by decide +kernel
theorem dc_O_refuse_1 : decode cb_O_refuse 1 = .ok (.iload_n 1, 1) := by decide +kernel
theorem dc_O_refuse_2 : decode cb_O_refuse 2 = .ok (.putfield 114, 3) := by decide +kernel
theorem dc_O_refuse_5 : decode cb_O_refuse 5 = .ok (.iconst 0, 1) := by decide +kernel
theorem dc_O_refuse_6 : decode cb_O_refuse 6 = .ok (.ireturn, 1) := by decide +kernel
theorem dc_O_thrown_0 : decode cb_O_thrown 0 = .ok (.aload_n 0, 1) := by decide +kernel
theorem dc_O_thrown_1 : decode cb_O_thrown 1 = .ok (.getfield 114, 3) := by decide +kernel
theorem dc_O_thrown_4 : decode cb_O_thrown 4 = .ok (.ireturn, 1) := by decide +kernel
theorem dc_O_alive_0 : decode cb_O_alive 0 = .ok (.aload_n 0, 1) := by decide +kernel
theorem dc_O_alive_1 : decode cb_O_alive 1 = .ok (.getfield 43, 3) := by decide +kernel
theorem dc_O_alive_4 : decode cb_O_alive 4 = .ok (.iload_n 1, 1) := by decide +kernel
theorem dc_O_alive_5 : decode cb_O_alive 5 = .ok (.iaload, 1) := by decide +kernel
theorem dc_O_alive_6 : decode cb_O_alive 6 = .ok (.ifCond .eq 17, 3) := by decide +kernel
theorem dc_O_alive_9 : decode cb_O_alive 9 = .ok (.aload_n 0, 1) := by decide +kernel
theorem dc_O_alive_10 : decode cb_O_alive 10 = .ok (.getfield 43, 3) := by decide +kernel
theorem dc_O_alive_13 : decode cb_O_alive 13 = .ok (.iload_n 1, 1) := by decide +kernel
theorem dc_O_alive_14 : decode cb_O_alive 14 = .ok (.iaload, 1) := by decide +kernel
theorem dc_O_alive_15 : decode cb_O_alive 15 = .ok (.iconst 5, 1) := by decide +kernel
theorem dc_O_alive_16 : decode cb_O_alive 16 = .ok (.if_icmp .eq 7, 3) := by decide +kernel
theorem dc_O_alive_19 : decode cb_O_alive 19 = .ok (.iconst 1, 1) := by decide +kernel
theorem dc_O_alive_20 : decode cb_O_alive 20 = .ok (.goto 4, 3) := by decide +kernel
theorem dc_O_alive_23 : decode cb_O_alive 23 = .ok (.iconst 0, 1) := by decide +kernel
theorem dc_O_alive_24 : decode cb_O_alive 24 = .ok (.ireturn, 1) := by decide +kernel
theorem dc_O_bound_0 : decode cb_O_bound 0 = .ok (.aload_n 0, 1) := by decide +kernel
theorem dc_O_bound_1 : decode cb_O_bound 1 = .ok (.getfield 31, 3) := by decide +kernel
theorem dc_O_bound_4 : decode cb_O_bound 4 = .ok (.iload_n 1, 1) := by decide +kernel
theorem dc_O_bound_5 : decode cb_O_bound 5 = .ok (.iaload, 1) := by decide +kernel
theorem dc_O_bound_6 : decode cb_O_bound 6 = .ok (.iconst 1, 1) := by decide +kernel
theorem dc_O_bound_7 : decode cb_O_bound 7 = .ok (.isub, 1) := by decide +kernel
theorem dc_O_bound_8 : decode cb_O_bound 8 = .ok (.istore_n 3, 1) := by decide +kernel
theorem dc_O_bound_9 : decode cb_O_bound 9 = .ok (.iload_n 3, 1) := by decide +kernel
theorem dc_O_bound_10 : decode cb_O_bound 10 = .ok (.ifCond .lt 31, 3) := by decide +kernel
theorem dc_O_bound_13 : decode cb_O_bound 13 = .ok (.aload_n 0, 1) := by decide +kernel
theorem dc_O_bound_14 : decode cb_O_bound 14 = .ok (.getfield 25, 3) := by decide +kernel
theorem dc_O_bound_17 : decode cb_O_bound 17 = .ok (.bipush 12, 2) := by decide +kernel
theorem dc_O_bound_19 : decode cb_O_bound 19 = .ok (.iload_n 1, 1) := by decide +kernel
theorem dc_O_bound_20 : decode cb_O_bound 20 = .ok (.imul, 1) := by decide +kernel
theorem dc_O_bound_21 : decode cb_O_bound 21 = .ok (.iload_n 3, 1) := by decide +kernel
theorem dc_O_bound_22 : decode cb_O_bound 22 = .ok (.iadd, 1) := by decide +kernel
theorem dc_O_bound_23 : decode cb_O_bound 23 = .ok (.iaload, 1) := by decide +kernel
theorem dc_O_bound_24 : decode cb_O_bound 24 = .ok (.iload_n 2, 1) := by decide +kernel
theorem dc_O_bound_25 : decode cb_O_bound 25 = .ok (.if_icmp .ne 10, 3) := by decide +kernel
theorem dc_O_bound_28 : decode cb_O_bound 28 = .ok (.bipush 12, 2) := by decide +kernel
theorem dc_O_bound_30 : decode cb_O_bound 30 = .ok (.iload_n 1, 1) := by decide +kernel
theorem dc_O_bound_31 : decode cb_O_bound 31 = .ok (.imul, 1) := by decide +kernel
theorem dc_O_bound_32 : decode cb_O_bound 32 = .ok (.iload_n 3, 1) := by decide +kernel
theorem dc_O_bound_33 : decode cb_O_bound 33 = .ok (.iadd, 1) := by decide +kernel
theorem dc_O_bound_34 : decode cb_O_bound 34 = .ok (.ireturn, 1) := by decide +kernel
theorem dc_O_bound_35 : decode cb_O_bound 35 = .ok (.iinc 3 (-1), 3) := by decide +kernel
theorem dc_O_bound_38 : decode cb_O_bound 38 = .ok (.goto (-29), 3) := by decide +kernel
theorem dc_O_bound_41 : decode cb_O_bound 41 = .ok (.iconst (-1), 1) := by decide +kernel
theorem dc_O_bound_42 : decode cb_O_bound 42 = .ok (.ireturn, 1) := by decide +kernel
theorem dc_O_get_0 : decode cb_O_get 0 = .ok (.aload_n 0, 1) := by decide +kernel
theorem dc_O_get_1 : decode cb_O_get 1 = .ok (.iload_n 1, 1) := by decide +kernel
theorem dc_O_get_2 : decode cb_O_get 2 = .ok (.iload_n 2, 1) := by decide +kernel
theorem dc_O_get_3 : decode cb_O_get 3 = .ok (.invokevirtual 132, 3) := by decide +kernel
theorem dc_O_get_6 : decode cb_O_get 6 = .ok (.istore_n 3, 1) := by decide +kernel
theorem dc_O_get_7 : decode cb_O_get 7 = .ok (.iload_n 3, 1) := by decide +kernel
theorem dc_O_get_8 : decode cb_O_get 8 = .ok (.ifCond .ge 12, 3) := by decide +kernel
theorem dc_O_get_11 : decode cb_O_get 11 = .ok (.aload_n 0, 1) := by decide +kernel
theorem dc_O_get_12 : decode cb_O_get 12 = .ok (.getfield 22, 3) := by decide +kernel
theorem dc_O_get_15 : decode cb_O_get 15 = .ok (.iload_n 2, 1) := by decide +kernel
theorem dc_O_get_16 : decode cb_O_get 16 = .ok (.iaload, 1) := by decide +kernel
theorem dc_O_get_17 : decode cb_O_get 17 = .ok (.goto 9, 3) := by decide +kernel
theorem dc_O_get_20 : decode cb_O_get 20 = .ok (.aload_n 0, 1) := by decide +kernel
theorem dc_O_get_21 : decode cb_O_get 21 = .ok (.getfield 28, 3) := by decide +kernel
theorem dc_O_get_24 : decode cb_O_get 24 = .ok (.iload_n 3, 1) := by decide +kernel
theorem dc_O_get_25 : decode cb_O_get 25 = .ok (.iaload, 1) := by decide +kernel
theorem dc_O_get_26 : decode cb_O_get 26 = .ok (.ireturn, 1) := by decide +kernel
theorem dc_O_put_0 : decode cb_O_put 0 = .ok (.aload_n 0, 1) := by decide +kernel
theorem dc_O_put_1 : decode cb_O_put 1 = .ok (.iload_n 1, 1) := by decide +kernel
theorem dc_O_put_2 : decode cb_O_put 2 = .ok (.iload_n 2, 1) := by decide +kernel
theorem dc_O_put_3 : decode cb_O_put 3 = .ok (.invokevirtual 132, 3) := by decide +kernel
theorem dc_O_put_6 : decode cb_O_put 6 = .ok (.istore 4, 2) := by decide +kernel
theorem dc_O_put_8 : decode cb_O_put 8 = .ok (.iload 4, 2) := by decide +kernel
theorem dc_O_put_10 : decode cb_O_put 10 = .ok (.ifCond .ge 13, 3) := by decide +kernel
theorem dc_O_put_13 : decode cb_O_put 13 = .ok (.aload_n 0, 1) := by decide +kernel
theorem dc_O_put_14 : decode cb_O_put 14 = .ok (.getfield 22, 3) := by decide +kernel
theorem dc_O_put_17 : decode cb_O_put 17 = .ok (.iload_n 2, 1) := by decide +kernel
theorem dc_O_put_18 : decode cb_O_put 18 = .ok (.iload_n 3, 1) := by decide +kernel
theorem dc_O_put_19 : decode cb_O_put 19 = .ok (.iastore, 1) := by decide +kernel
theorem dc_O_put_20 : decode cb_O_put 20 = .ok (.goto 11, 3) := by decide +kernel
theorem dc_O_put_23 : decode cb_O_put 23 = .ok (.aload_n 0, 1) := by decide +kernel
theorem dc_O_put_24 : decode cb_O_put 24 = .ok (.getfield 28, 3) := by decide +kernel
theorem dc_O_put_27 : decode cb_O_put 27 = .ok (.iload 4, 2) := by decide +kernel
theorem dc_O_put_29 : decode cb_O_put 29 = .ok (.iload_n 3, 1) := by decide +kernel
theorem dc_O_put_30 : decode cb_O_put 30 = .ok (.iastore, 1) := by decide +kernel
theorem dc_O_put_31 : decode cb_O_put 31 = .ok (.return_, 1) := by decide +kernel
theorem dc_O_begin_0 : decode cb_O_begin 0 = .ok (.aload_n 0, 1) := by decide +kernel
theorem dc_O_begin_1 : decode cb_O_begin 1 = .ok (.iload_n 1, 1) := by decide +kernel
theorem dc_O_begin_2 : decode cb_O_begin 2 = .ok (.invokevirtual 128, 3) := by decide +kernel
theorem dc_O_begin_5 : decode cb_O_begin 5 = .ok (.ifCond .eq 5, 3) := by decide +kernel
theorem dc_O_begin_8 : decode cb_O_begin 8 = .ok (.iconst 0, 1) := by decide +kernel
theorem dc_O_begin_9 : decode cb_O_begin 9 = .ok (.ireturn, 1) := by decide +kernel
theorem dc_O_begin_10 : decode cb_O_begin 10 = .ok (.aload_n 0, 1) := by decide +kernel
theorem dc_O_begin_11 : decode cb_O_begin 11 = .ok (.getfield 43, 3) := by decide +kernel
theorem dc_O_begin_14 : decode cb_O_begin 14 = .ok (.iload_n 1, 1) := by decide +kernel
theorem dc_O_begin_15 : decode cb_O_begin 15 = .ok (.iconst 1, 1) := by decide +kernel
theorem dc_O_begin_16 : decode cb_O_begin 16 = .ok (.iastore, 1) := by decide +kernel
theorem dc_O_begin_17 : decode cb_O_begin 17 = .ok (.aload_n 0, 1) := by decide +kernel
theorem dc_O_begin_18 : decode cb_O_begin 18 = .ok (.getfield 46, 3) := by decide +kernel
theorem dc_O_begin_21 : decode cb_O_begin 21 = .ok (.iload_n 1, 1) := by decide +kernel
theorem dc_O_begin_22 : decode cb_O_begin 22 = .ok (.iconst 0, 1) := by decide +kernel
theorem dc_O_begin_23 : decode cb_O_begin 23 = .ok (.iastore, 1) := by decide +kernel
theorem dc_O_begin_24 : decode cb_O_begin 24 = .ok (.aload_n 0, 1) := by decide +kernel
theorem dc_O_begin_25 : decode cb_O_begin 25 = .ok (.getfield 31, 3) := by decide +kernel
theorem dc_O_begin_28 : decode cb_O_begin 28 = .ok (.iload_n 1, 1) := by decide +kernel
theorem dc_O_begin_29 : decode cb_O_begin 29 = .ok (.iconst 0, 1) := by decide +kernel
theorem dc_O_begin_30 : decode cb_O_begin 30 = .ok (.iastore, 1) := by decide +kernel
theorem dc_O_begin_31 : decode cb_O_begin 31 = .ok (.aload_n 0, 1) := by decide +kernel
theorem dc_O_begin_32 : decode cb_O_begin 32 = .ok (.getfield 40, 3) := by decide +kernel
theorem dc_O_begin_35 : decode cb_O_begin 35 = .ok (.iload_n 1, 1) := by decide +kernel
theorem dc_O_begin_36 : decode cb_O_begin 36 = .ok (.iconst 0, 1) := by decide +kernel
theorem dc_O_begin_37 : decode cb_O_begin 37 = .ok (.iastore, 1) := by decide +kernel
theorem dc_O_begin_38 : decode cb_O_begin 38 = .ok (.aload_n 0, 1) := by decide +kernel
theorem dc_O_begin_39 : decode cb_O_begin 39 = .ok (.getfield 52, 3) := by decide +kernel
theorem dc_O_begin_42 : decode cb_O_begin 42 = .ok (.iload_n 1, 1) := by decide +kernel
theorem dc_O_begin_43 : decode cb_O_begin 43 = .ok (.bipush 24, 2) := by decide +kernel
theorem dc_O_begin_45 : decode cb_O_begin 45 = .ok (.iastore, 1) := by decide +kernel
theorem dc_O_begin_46 : decode cb_O_begin 46 = .ok (.aload_n 0, 1) := by decide +kernel
theorem dc_O_begin_47 : decode cb_O_begin 47 = .ok (.getfield 73, 3) := by decide +kernel
theorem dc_O_begin_50 : decode cb_O_begin 50 = .ok (.iload_n 1, 1) := by decide +kernel
theorem dc_O_begin_51 : decode cb_O_begin 51 = .ok (.iconst 0, 1) := by decide +kernel
theorem dc_O_begin_52 : decode cb_O_begin 52 = .ok (.bastore, 1) := by decide +kernel
theorem dc_O_begin_53 : decode cb_O_begin 53 = .ok (.aload_n 0, 1) := by decide +kernel
theorem dc_O_begin_54 : decode cb_O_begin 54 = .ok (.getfield 77, 3) := by decide +kernel
theorem dc_O_begin_57 : decode cb_O_begin 57 = .ok (.iload_n 1, 1) := by decide +kernel
theorem dc_O_begin_58 : decode cb_O_begin 58 = .ok (.iconst 0, 1) := by decide +kernel
theorem dc_O_begin_59 : decode cb_O_begin 59 = .ok (.bastore, 1) := by decide +kernel
theorem dc_O_begin_60 : decode cb_O_begin 60 = .ok (.aload_n 0, 1) := by decide +kernel
theorem dc_O_begin_61 : decode cb_O_begin 61 = .ok (.getfield 55, 3) := by decide +kernel
theorem dc_O_begin_64 : decode cb_O_begin 64 = .ok (.iload_n 1, 1) := by decide +kernel
theorem dc_O_begin_65 : decode cb_O_begin 65 = .ok (.iconst 0, 1) := by decide +kernel
theorem dc_O_begin_66 : decode cb_O_begin 66 = .ok (.iastore, 1) := by decide +kernel
theorem dc_O_begin_67 : decode cb_O_begin 67 = .ok (.aload_n 0, 1) := by decide +kernel
theorem dc_O_begin_68 : decode cb_O_begin 68 = .ok (.getfield 58, 3) := by decide +kernel
theorem dc_O_begin_71 : decode cb_O_begin 71 = .ok (.iload_n 1, 1) := by decide +kernel
theorem dc_O_begin_72 : decode cb_O_begin 72 = .ok (.dup2, 1) := by decide +kernel
theorem dc_O_begin_73 : decode cb_O_begin 73 = .ok (.iaload, 1) := by decide +kernel
theorem dc_O_begin_74 : decode cb_O_begin 74 = .ok (.iconst 1, 1) := by decide +kernel
theorem dc_O_begin_75 : decode cb_O_begin 75 = .ok (.iadd, 1) := by decide +kernel
theorem dc_O_begin_76 : decode cb_O_begin 76 = .ok (.iastore, 1) := by decide +kernel
theorem dc_O_begin_77 : decode cb_O_begin 77 = .ok (.iconst 1, 1) := by decide +kernel
theorem dc_O_begin_78 : decode cb_O_begin 78 = .ok (.ireturn, 1) := by decide +kernel
theorem dc_O_clear_0 : decode cb_O_clear 0 = .ok (.aload_n 0, 1) := by decide +kernel
theorem dc_O_clear_1 : decode cb_O_clear 1 = .ok (.iconst 0, 1) := by decide +kernel
theorem dc_O_clear_2 : decode cb_O_clear 2 = .ok (.putfield 114, 3) := by decide +kernel
theorem dc_O_clear_5 : decode cb_O_clear 5 = .ok (.iload_n 1, 1) := by decide +kernel
theorem dc_O_clear_6 : decode cb_O_clear 6 = .ok (.iconst 0, 1) := by decide +kernel
theorem dc_O_clear_7 : decode cb_O_clear 7 = .ok (.iconst 4, 1) := by decide +kernel
theorem dc_O_clear_8 : decode cb_O_clear 8 = .ok (.invokestatic 117, 3) := by decide +kernel
theorem dc_O_clear_11 : decode cb_O_clear 11 = .ok (.ifCond .ne 9, 3) := by decide +kernel
theorem dc_O_clear_14 : decode cb_O_clear 14 = .ok (.aload_n 0, 1) := by decide +kernel
theorem dc_O_clear_15 : decode cb_O_clear 15 = .ok (.iconst 1, 1) := by decide +kernel
theorem dc_O_clear_16 : decode cb_O_clear 16 = .ok (.invokevirtual 124, 3) := by decide +kernel
theorem dc_O_clear_19 : decode cb_O_clear 19 = .ok (.ireturn, 1) := by decide +kernel
theorem dc_O_clear_20 : decode cb_O_clear 20 = .ok (.aload_n 0, 1) := by decide +kernel
theorem dc_O_clear_21 : decode cb_O_clear 21 = .ok (.iload_n 1, 1) := by decide +kernel
theorem dc_O_clear_22 : decode cb_O_clear 22 = .ok (.invokevirtual 128, 3) := by decide +kernel
theorem dc_O_clear_25 : decode cb_O_clear 25 = .ok (.ifCond .eq 9, 3) := by decide +kernel
theorem dc_O_clear_28 : decode cb_O_clear 28 = .ok (.aload_n 0, 1) := by decide +kernel
theorem dc_O_clear_29 : decode cb_O_clear 29 = .ok (.iconst 2, 1) := by decide +kernel
theorem dc_O_clear_30 : decode cb_O_clear 30 = .ok (.invokevirtual 124, 3) := by decide +kernel
theorem dc_O_clear_33 : decode cb_O_clear 33 = .ok (.ireturn, 1) := by decide +kernel
theorem dc_O_clear_34 : decode cb_O_clear 34 = .ok (.aload_n 0, 1) := by decide +kernel
theorem dc_O_clear_35 : decode cb_O_clear 35 = .ok (.getfield 19, 3) := by decide +kernel
theorem dc_O_clear_38 : decode cb_O_clear 38 = .ok (.iload_n 1, 1) := by decide +kernel
theorem dc_O_clear_39 : decode cb_O_clear 39 = .ok (.iaload, 1) := by decide +kernel
theorem dc_O_clear_40 : decode cb_O_clear 40 = .ok (.istore_n 2, 1) := by decide +kernel
theorem dc_O_clear_41 : decode cb_O_clear 41 = .ok (.aload_n 0, 1) := by decide +kernel
theorem dc_O_clear_42 : decode cb_O_clear 42 = .ok (.getfield 19, 3) := by decide +kernel
theorem dc_O_clear_45 : decode cb_O_clear 45 = .ok (.iload_n 1, 1) := by decide +kernel
theorem dc_O_clear_46 : decode cb_O_clear 46 = .ok (.iconst 0, 1) := by decide +kernel
theorem dc_O_clear_47 : decode cb_O_clear 47 = .ok (.iastore, 1) := by decide +kernel
theorem dc_O_clear_48 : decode cb_O_clear 48 = .ok (.iload_n 2, 1) := by decide +kernel
theorem dc_O_clear_49 : decode cb_O_clear 49 = .ok (.ireturn, 1) := by decide +kernel
theorem dc_O_start_0 : decode cb_O_start 0 = .ok (.aload_n 0, 1) := by decide +kernel
theorem dc_O_start_1 : decode cb_O_start 1 = .ok (.iconst 0, 1) := by decide +kernel
theorem dc_O_start_2 : decode cb_O_start 2 = .ok (.putfield 114, 3) := by decide +kernel
theorem dc_O_start_5 : decode cb_O_start 5 = .ok (.iload_n 1, 1) := by decide +kernel
theorem dc_O_start_6 : decode cb_O_start 6 = .ok (.iconst 0, 1) := by decide +kernel
theorem dc_O_start_7 : decode cb_O_start 7 = .ok (.iconst 4, 1) := by decide +kernel
theorem dc_O_start_8 : decode cb_O_start 8 = .ok (.invokestatic 117, 3) := by decide +kernel
theorem dc_O_start_11 : decode cb_O_start 11 = .ok (.ifCond .ne 9, 3) := by decide +kernel
theorem dc_O_start_14 : decode cb_O_start 14 = .ok (.aload_n 0, 1) := by decide +kernel
theorem dc_O_start_15 : decode cb_O_start 15 = .ok (.iconst 1, 1) := by decide +kernel
theorem dc_O_start_16 : decode cb_O_start 16 = .ok (.invokevirtual 124, 3) := by decide +kernel
theorem dc_O_start_19 : decode cb_O_start 19 = .ok (.ireturn, 1) := by decide +kernel
theorem dc_O_start_20 : decode cb_O_start 20 = .ok (.aload_n 0, 1) := by decide +kernel
theorem dc_O_start_21 : decode cb_O_start 21 = .ok (.iload_n 1, 1) := by decide +kernel
theorem dc_O_start_22 : decode cb_O_start 22 = .ok (.invokevirtual 179, 3) := by decide +kernel
theorem dc_O_start_25 : decode cb_O_start 25 = .ok (.ifCond .eq 7, 3) := by decide +kernel
theorem dc_O_start_28 : decode cb_O_start 28 = .ok (.iconst 1, 1) := by decide +kernel
theorem dc_O_start_29 : decode cb_O_start 29 = .ok (.goto 4, 3) := by decide +kernel
theorem dc_O_start_32 : decode cb_O_start 32 = .ok (.iconst 0, 1) := by decide +kernel
theorem dc_O_start_33 : decode cb_O_start 33 = .ok (.ireturn, 1) := by decide +kernel
theorem dc_O_global_0 : decode cb_O_global 0 = .ok (.aload_n 0, 1) := by decide +kernel
theorem dc_O_global_1 : decode cb_O_global 1 = .ok (.iconst 0, 1) := by decide +kernel
theorem dc_O_global_2 : decode cb_O_global 2 = .ok (.putfield 114, 3) := by decide +kernel
theorem dc_O_global_5 : decode cb_O_global 5 = .ok (.iload_n 1, 1) := by decide +kernel
theorem dc_O_global_6 : decode cb_O_global 6 = .ok (.iconst 0, 1) := by decide +kernel
theorem dc_O_global_7 : decode cb_O_global 7 = .ok (.iconst 3, 1) := by decide +kernel
theorem dc_O_global_8 : decode cb_O_global 8 = .ok (.invokestatic 117, 3) := by decide +kernel
theorem dc_O_global_11 : decode cb_O_global 11 = .ok (.ifCond .ne 9, 3) := by decide +kernel
theorem dc_O_global_14 : decode cb_O_global 14 = .ok (.aload_n 0, 1) := by decide +kernel
theorem dc_O_global_15 : decode cb_O_global 15 = .ok (.iconst 1, 1) := by decide +kernel
theorem dc_O_global_16 : decode cb_O_global 16 = .ok (.invokevirtual 124, 3) := by decide +kernel
theorem dc_O_global_19 : decode cb_O_global 19 = .ok (.ireturn, 1) := by decide +kernel
theorem dc_O_global_20 : decode cb_O_global 20 = .ok (.aload_n 0, 1) := by decide +kernel
theorem dc_O_global_21 : decode cb_O_global 21 = .ok (.getfield 22, 3) := by decide +kernel
theorem dc_O_global_24 : decode cb_O_global 24 = .ok (.iload_n 1, 1) := by decide +kernel
theorem dc_O_global_25 : decode cb_O_global 25 = .ok (.iaload, 1) := by decide +kernel
theorem dc_O_global_26 : decode cb_O_global 26 = .ok (.istore_n 3, 1) := by decide +kernel
theorem dc_O_global_27 : decode cb_O_global 27 = .ok (.aload_n 0, 1) := by decide +kernel
theorem dc_O_global_28 : decode cb_O_global 28 = .ok (.getfield 22, 3) := by decide +kernel
theorem dc_O_global_31 : decode cb_O_global 31 = .ok (.iload_n 1, 1) := by decide +kernel
theorem dc_O_global_32 : decode cb_O_global 32 = .ok (.iload_n 2, 1) := by decide +kernel
theorem dc_O_global_33 : decode cb_O_global 33 = .ok (.iastore, 1) := by decide +kernel
theorem dc_O_global_34 : decode cb_O_global 34 = .ok (.iload_n 3, 1) := by decide +kernel
theorem dc_O_global_35 : decode cb_O_global 35 = .ok (.ireturn, 1) := by decide +kernel
theorem dc_O_special_0 : decode cb_O_special 0 = .ok (.aload_n 0, 1) := by decide +kernel
theorem dc_O_special_1 : decode cb_O_special 1 = .ok (.iconst 0, 1) := by decide +kernel
theorem dc_O_special_2 : decode cb_O_special 2 = .ok (.putfield 114, 3) := by decide +kernel
theorem dc_O_special_5 : decode cb_O_special 5 = .ok (.iload_n 1, 1) := by decide +kernel
theorem dc_O_special_6 : decode cb_O_special 6 = .ok (.iconst 0, 1) := by decide +kernel
theorem dc_O_special_7 : decode cb_O_special 7 = .ok (.iconst 4, 1) := by decide +kernel
theorem dc_O_special_8 : decode cb_O_special 8 = .ok (.invokestatic 117, 3) := by decide +kernel
theorem dc_O_special_11 : decode cb_O_special 11 = .ok (.ifCond .eq 21, 3) := by decide +kernel
theorem dc_O_special_14 : decode cb_O_special 14 = .ok (.iload_n 2, 1) := by decide +kernel
theorem dc_O_special_15 : decode cb_O_special 15 = .ok (.iconst 0, 1) := by decide +kernel
theorem dc_O_special_16 : decode cb_O_special 16 = .ok (.iconst 3, 1) := by decide +kernel
theorem dc_O_special_17 : decode cb_O_special 17 = .ok (.invokestatic 117, 3) := by decide +kernel
theorem dc_O_special_20 : decode cb_O_special 20 = .ok (.ifCond .eq 12, 3) := by decide +kernel
theorem dc_O_special_23 : decode cb_O_special 23 = .ok (.aload_n 0, 1) := by decide +kernel
theorem dc_O_special_24 : decode cb_O_special 24 = .ok (.iload_n 1, 1) := by decide +kernel
theorem dc_O_special_25 : decode cb_O_special 25 = .ok (.iload_n 2, 1) := by decide +kernel
theorem dc_O_special_26 : decode cb_O_special 26 = .ok (.invokevirtual 136, 3) := by decide +kernel
theorem dc_O_special_29 : decode cb_O_special 29 = .ok (.goto 8, 3) := by decide +kernel
theorem dc_O_special_32 : decode cb_O_special 32 = .ok (.aload_n 0, 1) := by decide +kernel
theorem dc_O_special_33 : decode cb_O_special 33 = .ok (.iconst 1, 1) := by decide +kernel
theorem dc_O_special_34 : decode cb_O_special 34 = .ok (.invokevirtual 124, 3) := by decide +kernel
theorem dc_O_special_37 : decode cb_O_special 37 = .ok (.ireturn, 1) := by decide +kernel
theorem dc_O_look_0 : decode cb_O_look 0 = .ok (.aload_n 0, 1) := by decide +kernel
theorem dc_O_look_1 : decode cb_O_look 1 = .ok (.iconst 0, 1) := by decide +kernel
theorem dc_O_look_2 : decode cb_O_look 2 = .ok (.putfield 114, 3) := by decide +kernel
theorem dc_O_look_5 : decode cb_O_look 5 = .ok (.iload_n 1, 1) := by decide +kernel
theorem dc_O_look_6 : decode cb_O_look 6 = .ok (.iconst 0, 1) := by decide +kernel
theorem dc_O_look_7 : decode cb_O_look 7 = .ok (.iconst 4, 1) := by decide +kernel
theorem dc_O_look_8 : decode cb_O_look 8 = .ok (.invokestatic 117, 3) := by decide +kernel
theorem dc_O_look_11 : decode cb_O_look 11 = .ok (.ifCond .ne 9, 3) := by decide +kernel
theorem dc_O_look_14 : decode cb_O_look 14 = .ok (.aload_n 0, 1) := by decide +kernel
theorem dc_O_look_15 : decode cb_O_look 15 = .ok (.iconst 1, 1) := by decide +kernel
theorem dc_O_look_16 : decode cb_O_look 16 = .ok (.invokevirtual 124, 3) := by decide +kernel
theorem dc_O_look_19 : decode cb_O_look 19 = .ok (.ireturn, 1) := by decide +kernel
theorem dc_O_look_20 : decode cb_O_look 20 = .ok (.iload_n 2, 1) := by decide +kernel
theorem dc_O_look_21 : decode cb_O_look 21 = .ok (.tableswitch 133 0 9 #[55, 62, 69, 76, 83, 90, 105, 112, 119, 126], 55) := by decide +kernel
theorem dc_O_look_76 : decode cb_O_look 76 = .ok (.aload_n 0, 1) := by decide +kernel
theorem dc_O_look_77 : decode cb_O_look 77 = .ok (.getfield 43, 3) := by decide +kernel
theorem dc_O_look_80 : decode cb_O_look 80 = .ok (.iload_n 1, 1) := by decide +kernel
theorem dc_O_look_81 : decode cb_O_look 81 = .ok (.iaload, 1) := by decide +kernel
theorem dc_O_look_82 : decode cb_O_look 82 = .ok (.ireturn, 1) := by decide +kernel
theorem dc_O_look_83 : decode cb_O_look 83 = .ok (.aload_n 0, 1) := by decide +kernel
theorem dc_O_look_84 : decode cb_O_look 84 = .ok (.getfield 46, 3) := by decide +kernel
theorem dc_O_look_87 : decode cb_O_look 87 = .ok (.iload_n 1, 1) := by decide +kernel
theorem dc_O_look_88 : decode cb_O_look 88 = .ok (.iaload, 1) := by decide +kernel
theorem dc_O_look_89 : decode cb_O_look 89 = .ok (.ireturn, 1) := by decide +kernel
theorem dc_O_look_90 : decode cb_O_look 90 = .ok (.aload_n 0, 1) := by decide +kernel
theorem dc_O_look_91 : decode cb_O_look 91 = .ok (.getfield 49, 3) := by decide +kernel
theorem dc_O_look_94 : decode cb_O_look 94 = .ok (.iload_n 1, 1) := by decide +kernel
theorem dc_O_look_95 : decode cb_O_look 95 = .ok (.iaload, 1) := by decide +kernel
theorem dc_O_look_96 : decode cb_O_look 96 = .ok (.ireturn, 1) := by decide +kernel
theorem dc_O_look_97 : decode cb_O_look 97 = .ok (.aload_n 0, 1) := by decide +kernel
theorem dc_O_look_98 : decode cb_O_look 98 = .ok (.getfield 31, 3) := by decide +kernel
theorem dc_O_look_101 : decode cb_O_look 101 = .ok (.iload_n 1, 1) := by decide +kernel
theorem dc_O_look_102 : decode cb_O_look 102 = .ok (.iaload, 1) := by decide +kernel
theorem dc_O_look_103 : decode cb_O_look 103 = .ok (.ireturn, 1) := by decide +kernel
theorem dc_O_look_104 : decode cb_O_look 104 = .ok (.aload_n 0, 1) := by decide +kernel
theorem dc_O_look_105 : decode cb_O_look 105 = .ok (.getfield 40, 3) := by decide +kernel
theorem dc_O_look_108 : decode cb_O_look 108 = .ok (.iload_n 1, 1) := by decide +kernel
theorem dc_O_look_109 : decode cb_O_look 109 = .ok (.iaload, 1) := by decide +kernel
theorem dc_O_look_110 : decode cb_O_look 110 = .ok (.ireturn, 1) := by decide +kernel
theorem dc_O_look_111 : decode cb_O_look 111 = .ok (.aload_n 0, 1) := by decide +kernel
theorem dc_O_look_112 : decode cb_O_look 112 = .ok (.getfield 73, 3) := by decide +kernel
theorem dc_O_look_115 : decode cb_O_look 115 = .ok (.iload_n 1, 1) := by decide +kernel
theorem dc_O_look_116 : decode cb_O_look 116 = .ok (.baload, 1) := by decide +kernel
theorem dc_O_look_117 : decode cb_O_look 117 = .ok (.ifCond .eq 7, 3) := by decide +kernel
theorem dc_O_look_120 : decode cb_O_look 120 = .ok (.iconst 1, 1) := by decide +kernel
theorem dc_O_look_121 : decode cb_O_look 121 = .ok (.goto 4, 3) := by decide +kernel
theorem dc_O_look_124 : decode cb_O_look 124 = .ok (.iconst 0, 1) := by decide +kernel
theorem dc_O_look_125 : decode cb_O_look 125 = .ok (.ireturn, 1) := by decide +kernel
theorem dc_O_look_126 : decode cb_O_look 126 = .ok (.aload_n 0, 1) := by decide +kernel
theorem dc_O_look_127 : decode cb_O_look 127 = .ok (.getfield 52, 3) := by decide +kernel
theorem dc_O_look_130 : decode cb_O_look 130 = .ok (.iload_n 1, 1) := by decide +kernel
theorem dc_O_look_131 : decode cb_O_look 131 = .ok (.iaload, 1) := by decide +kernel
theorem dc_O_look_132 : decode cb_O_look 132 = .ok (.ireturn, 1) := by decide +kernel
theorem dc_O_look_133 : decode cb_O_look 133 = .ok (.aload_n 0, 1) := by decide +kernel
theorem dc_O_look_134 : decode cb_O_look 134 = .ok (.getfield 55, 3) := by decide +kernel
theorem dc_O_look_137 : decode cb_O_look 137 = .ok (.iload_n 1, 1) := by decide +kernel
theorem dc_O_look_138 : decode cb_O_look 138 = .ok (.iaload, 1) := by decide +kernel
theorem dc_O_look_139 : decode cb_O_look 139 = .ok (.ireturn, 1) := by decide +kernel
theorem dc_O_look_140 : decode cb_O_look 140 = .ok (.aload_n 0, 1) := by decide +kernel
theorem dc_O_look_141 : decode cb_O_look 141 = .ok (.getfield 58, 3) := by decide +kernel
theorem dc_O_look_144 : decode cb_O_look 144 = .ok (.iload_n 1, 1) := by decide +kernel
theorem dc_O_look_145 : decode cb_O_look 145 = .ok (.iaload, 1) := by decide +kernel
theorem dc_O_look_146 : decode cb_O_look 146 = .ok (.ireturn, 1) := by decide +kernel
theorem dc_O_look_147 : decode cb_O_look 147 = .ok (.aload_n 0, 1) := by decide +kernel
theorem dc_O_look_148 : decode cb_O_look 148 = .ok (.getfield 101, 3) := by decide +kernel
theorem dc_O_look_151 : decode cb_O_look 151 = .ok (.iload_n 1, 1) := by decide +kernel
theorem dc_O_look_152 : decode cb_O_look 152 = .ok (.iaload, 1) := by decide +kernel
theorem dc_O_look_153 : decode cb_O_look 153 = .ok (.ireturn, 1) := by decide +kernel
theorem dc_O_look_154 : decode cb_O_look 154 = .ok (.aload_n 0, 1) := by decide +kernel
theorem dc_O_look_155 : decode cb_O_look 155 = .ok (.iconst 1, 1) := by decide +kernel
theorem dc_O_look_156 : decode cb_O_look 156 = .ok (.invokevirtual 124, 3) := by decide +kernel
theorem dc_O_look_159 : decode cb_O_look 159 = .ok (.ireturn, 1) := by decide +kernel
theorem dc_O_lock_0 : decode cb_O_lock 0 = .ok (.aload_n 0, 1) := by decide +kernel
theorem dc_O_lock_1 : decode cb_O_lock 1 = .ok (.iconst 0, 1) := by decide +kernel
theorem dc_O_lock_2 : decode cb_O_lock 2 = .ok (.putfield 114, 3) := by decide +kernel
theorem dc_O_lock_5 : decode cb_O_lock 5 = .ok (.iload_n 1, 1) := by decide +kernel
theorem dc_O_lock_6 : decode cb_O_lock 6 = .ok (.iconst 0, 1) := by decide +kernel
theorem dc_O_lock_7 : decode cb_O_lock 7 = .ok (.iconst 2, 1) := by decide +kernel
theorem dc_O_lock_8 : decode cb_O_lock 8 = .ok (.invokestatic 117, 3) := by decide +kernel
theorem dc_O_lock_11 : decode cb_O_lock 11 = .ok (.ifCond .eq 12, 3) := by decide +kernel
theorem dc_O_lock_14 : decode cb_O_lock 14 = .ok (.iload_n 2, 1) := by decide +kernel
theorem dc_O_lock_15 : decode cb_O_lock 15 = .ok (.iconst 0, 1) := by decide +kernel
theorem dc_O_lock_16 : decode cb_O_lock 16 = .ok (.iconst 3, 1) := by decide +kernel
theorem dc_O_lock_17 : decode cb_O_lock 17 = .ok (.invokestatic 117, 3) := by decide +kernel
theorem dc_O_lock_20 : decode cb_O_lock 20 = .ok (.ifCond .ne 9, 3) := by decide +kernel
theorem dc_O_lock_23 : decode cb_O_lock 23 = .ok (.aload_n 0, 1) := by decide +kernel
theorem dc_O_lock_24 : decode cb_O_lock 24 = .ok (.iconst 1, 1) := by decide +kernel
theorem dc_O_lock_25 : decode cb_O_lock 25 = .ok (.invokevirtual 124, 3) := by decide +kernel
theorem dc_O_lock_28 : decode cb_O_lock 28 = .ok (.ireturn, 1) := by decide +kernel
theorem dc_O_lock_29 : decode cb_O_lock 29 = .ok (.iload_n 2, 1) := by decide +kernel
theorem dc_O_lock_30 : decode cb_O_lock 30 = .ok (.ifCond .ne 12, 3) := by decide +kernel
theorem dc_O_lock_33 : decode cb_O_lock 33 = .ok (.aload_n 0, 1) := by decide +kernel
theorem dc_O_lock_34 : decode cb_O_lock 34 = .ok (.getfield 80, 3) := by decide +kernel
theorem dc_O_lock_37 : decode cb_O_lock 37 = .ok (.iload_n 1, 1) := by decide +kernel
theorem dc_O_lock_38 : decode cb_O_lock 38 = .ok (.iaload, 1) := by decide +kernel
theorem dc_O_lock_39 : decode cb_O_lock 39 = .ok (.goto 37, 3) := by decide +kernel
theorem dc_O_lock_42 : decode cb_O_lock 42 = .ok (.iload_n 2, 1) := by decide +kernel
theorem dc_O_lock_43 : decode cb_O_lock 43 = .ok (.iconst 1, 1) := by decide +kernel
theorem dc_O_lock_44 : decode cb_O_lock 44 = .ok (.if_icmp .ne 12, 3) := by decide +kernel
theorem dc_O_lock_47 : decode cb_O_lock 47 = .ok (.aload_n 0, 1) := by decide +kernel
theorem dc_O_lock_48 : decode cb_O_lock 48 = .ok (.getfield 83, 3) := by decide +kernel
theorem dc_O_lock_51 : decode cb_O_lock 51 = .ok (.iload_n 1, 1) := by decide +kernel
theorem dc_O_lock_52 : decode cb_O_lock 52 = .ok (.iaload, 1) := by decide +kernel
theorem dc_O_lock_53 : decode cb_O_lock 53 = .ok (.goto 23, 3) := by decide +kernel
theorem dc_O_lock_56 : decode cb_O_lock 56 = .ok (.iload_n 2, 1) := by decide +kernel
theorem dc_O_lock_57 : decode cb_O_lock 57 = .ok (.iconst 2, 1) := by decide +kernel
theorem dc_O_lock_58 : decode cb_O_lock 58 = .ok (.if_icmp .ne 12, 3) := by decide +kernel
theorem dc_O_lock_61 : decode cb_O_lock 61 = .ok (.aload_n 0, 1) := by decide +kernel
theorem dc_O_lock_62 : decode cb_O_lock 62 = .ok (.getfield 89, 3) := by decide +kernel
theorem dc_O_lock_65 : decode cb_O_lock 65 = .ok (.iload_n 1, 1) := by decide +kernel
theorem dc_O_lock_66 : decode cb_O_lock 66 = .ok (.iaload, 1) := by decide +kernel
theorem dc_O_lock_67 : decode cb_O_lock 67 = .ok (.goto 9, 3) := by decide +kernel
theorem dc_O_lock_70 : decode cb_O_lock 70 = .ok (.aload_n 0, 1) := by decide +kernel
theorem dc_O_lock_71 : decode cb_O_lock 71 = .ok (.getfield 95, 3) := by decide +kernel
theorem dc_O_lock_74 : decode cb_O_lock 74 = .ok (.iload_n 1, 1) := by decide +kernel
theorem dc_O_lock_75 : decode cb_O_lock 75 = .ok (.iaload, 1) := by decide +kernel
theorem dc_O_lock_76 : decode cb_O_lock 76 = .ok (.ireturn, 1) := by decide +kernel
theorem dc_O_said_0 : decode cb_O_said 0 = .ok (.aload_n 0, 1) := by decide +kernel
theorem dc_O_said_1 : decode cb_O_said 1 = .ok (.iconst 0, 1) := by decide +kernel
theorem dc_O_said_2 : decode cb_O_said 2 = .ok (.putfield 114, 3) := by decide +kernel
theorem dc_O_said_5 : decode cb_O_said 5 = .ok (.iload_n 1, 1) := by decide +kernel
theorem dc_O_said_6 : decode cb_O_said 6 = .ok (.iconst 0, 1) := by decide +kernel
theorem dc_O_said_7 : decode cb_O_said 7 = .ok (.bipush 39, 2) := by decide +kernel
theorem dc_O_said_9 : decode cb_O_said 9 = .ok (.invokestatic 117, 3) := by decide +kernel
theorem dc_O_said_12 : decode cb_O_said 12 = .ok (.ifCond .eq 22, 3) := by decide +kernel
theorem dc_O_said_15 : decode cb_O_said 15 = .ok (.iload_n 1, 1) := by decide +kernel
theorem dc_O_said_16 : decode cb_O_said 16 = .ok (.aload_n 0, 1) := by decide +kernel
theorem dc_O_said_17 : decode cb_O_said 17 = .ok (.getfield 107, 3) := by decide +kernel
theorem dc_O_said_20 : decode cb_O_said 20 = .ok (.iconst 0, 1) := by decide +kernel
theorem dc_O_said_21 : decode cb_O_said 21 = .ok (.iaload, 1) := by decide +kernel
theorem dc_O_said_22 : decode cb_O_said 22 = .ok (.if_icmp .ge 12, 3) := by decide +kernel
theorem dc_O_said_25 : decode cb_O_said 25 = .ok (.aload_n 0, 1) := by decide +kernel
theorem dc_O_said_26 : decode cb_O_said 26 = .ok (.getfield 104, 3) := by decide +kernel
theorem dc_O_said_29 : decode cb_O_said 29 = .ok (.iload_n 1, 1) := by decide +kernel
theorem dc_O_said_30 : decode cb_O_said 30 = .ok (.iaload, 1) := by decide +kernel
theorem dc_O_said_31 : decode cb_O_said 31 = .ok (.goto 8, 3) := by decide +kernel
theorem dc_O_said_34 : decode cb_O_said 34 = .ok (.aload_n 0, 1) := by decide +kernel
theorem dc_O_said_35 : decode cb_O_said 35 = .ok (.iconst 1, 1) := by decide +kernel
theorem dc_O_said_36 : decode cb_O_said 36 = .ok (.invokevirtual 124, 3) := by decide +kernel
theorem dc_O_said_39 : decode cb_O_said 39 = .ok (.ireturn, 1) := by decide +kernel
theorem dc_O_slice_0 : decode cb_O_slice 0 = .ok (.aload_n 0, 1) := by decide +kernel
theorem dc_O_slice_1 : decode cb_O_slice 1 = .ok (.iconst 0, 1) := by decide +kernel
theorem dc_O_slice_2 : decode cb_O_slice 2 = .ok (.putfield 114, 3) := by decide +kernel
theorem dc_O_slice_5 : decode cb_O_slice 5 = .ok (.iload_n 1, 1) := by decide +kernel
theorem dc_O_slice_6 : decode cb_O_slice 6 = .ok (.iconst 1, 1) := by decide +kernel
theorem dc_O_slice_7 : decode cb_O_slice 7 = .ok (.bipush 20, 2) := by decide +kernel
theorem dc_O_slice_9 : decode cb_O_slice 9 = .ok (.invokestatic 117, 3) := by decide +kernel
theorem dc_O_slice_12 : decode cb_O_slice 12 = .ok (.ifCond .ne 9, 3) := by decide +kernel
theorem dc_O_slice_15 : decode cb_O_slice 15 = .ok (.aload_n 0, 1) := by decide +kernel
theorem dc_O_slice_16 : decode cb_O_slice 16 = .ok (.iconst 1, 1) := by decide +kernel
theorem dc_O_slice_17 : decode cb_O_slice 17 = .ok (.invokevirtual 124, 3) := by decide +kernel
theorem dc_O_slice_20 : decode cb_O_slice 20 = .ok (.ireturn, 1) := by decide +kernel
theorem dc_O_slice_21 : decode cb_O_slice 21 = .ok (.aload_n 0, 1) := by decide +kernel
theorem dc_O_slice_22 : decode cb_O_slice 22 = .ok (.getfield 110, 3) := by decide +kernel
theorem dc_O_slice_25 : decode cb_O_slice 25 = .ok (.istore_n 2, 1) := by decide +kernel
theorem dc_O_slice_26 : decode cb_O_slice 26 = .ok (.aload_n 0, 1) := by decide +kernel
theorem dc_O_slice_27 : decode cb_O_slice 27 = .ok (.iload_n 1, 1) := by decide +kernel
theorem dc_O_slice_28 : decode cb_O_slice 28 = .ok (.putfield 110, 3) := by decide +kernel
theorem dc_O_slice_31 : decode cb_O_slice 31 = .ok (.iload_n 2, 1) := by decide +kernel
theorem dc_O_slice_32 : decode cb_O_slice 32 = .ok (.ireturn, 1) := by decide +kernel
theorem dc_O_count_0 : decode cb_O_count 0 = .ok (.aload_n 0, 1) := by decide +kernel
theorem dc_O_count_1 : decode cb_O_count 1 = .ok (.iconst 0, 1) := by decide +kernel
theorem dc_O_count_2 : decode cb_O_count 2 = .ok (.putfield 114, 3) := by decide +kernel
theorem dc_O_count_5 : decode cb_O_count 5 = .ok (.iload_n 1, 1) := by decide +kernel
theorem dc_O_count_6 : decode cb_O_count 6 = .ok (.iconst 0, 1) := by decide +kernel
theorem dc_O_count_7 : decode cb_O_count 7 = .ok (.bipush 7, 2) := by decide +kernel
theorem dc_O_count_9 : decode cb_O_count 9 = .ok (.invokestatic 117, 3) := by decide +kernel
theorem dc_O_count_12 : decode cb_O_count 12 = .ok (.ifCond .ne 9, 3) := by decide +kernel
theorem dc_O_count_15 : decode cb_O_count 15 = .ok (.aload_n 0, 1) := by decide +kernel
theorem dc_O_count_16 : decode cb_O_count 16 = .ok (.iconst 1, 1) := by decide +kernel
theorem dc_O_count_17 : decode cb_O_count 17 = .ok (.invokevirtual 124, 3) := by decide +kernel
theorem dc_O_count_20 : decode cb_O_count 20 = .ok (.ireturn, 1) := by decide +kernel
theorem dc_O_count_21 : decode cb_O_count 21 = .ok (.iload_n 1, 1) := by decide +kernel
theorem dc_O_count_22 : decode cb_O_count 22 = .ok (.iconst 3, 1) := by decide +kernel
theorem dc_O_count_23 : decode cb_O_count 23 = .ok (.if_icmp .eq 15, 3) := by decide +kernel
theorem dc_O_count_26 : decode cb_O_count 26 = .ok (.iload_n 1, 1) := by decide +kernel
theorem dc_O_count_27 : decode cb_O_count 27 = .ok (.iconst 4, 1) := by decide +kernel
theorem dc_O_count_28 : decode cb_O_count 28 = .ok (.if_icmp .eq 10, 3) := by decide +kernel
theorem dc_O_count_31 : decode cb_O_count 31 = .ok (.aload_n 0, 1) := by decide +kernel
theorem dc_O_count_32 : decode cb_O_count 32 = .ok (.getfield 107, 3) := by decide +kernel
theorem dc_O_count_35 : decode cb_O_count 35 = .ok (.iload_n 1, 1) := by decide +kernel
theorem dc_O_count_36 : decode cb_O_count 36 = .ok (.iaload, 1) := by decide +kernel
theorem dc_O_count_37 : decode cb_O_count 37 = .ok (.ireturn, 1) := by decide +kernel
theorem dc_O_count_38 : decode cb_O_count 38 = .ok (.iconst 0, 1) := by decide +kernel
theorem dc_O_count_39 : decode cb_O_count 39 = .ok (.istore_n 2, 1) := by decide +kernel
theorem dc_O_count_40 : decode cb_O_count 40 = .ok (.iconst 0, 1) := by decide +kernel
theorem dc_O_count_41 : decode cb_O_count 41 = .ok (.istore_n 3, 1) := by decide +kernel
theorem dc_O_count_42 : decode cb_O_count 42 = .ok (.iload_n 3, 1) := by decide +kernel
theorem dc_O_count_43 : decode cb_O_count 43 = .ok (.iconst 5, 1) := by decide +kernel
theorem dc_O_count_44 : decode cb_O_count 44 = .ok (.if_icmp .ge 38, 3) := by decide +kernel
theorem dc_O_count_47 : decode cb_O_count 47 = .ok (.iload_n 1, 1) := by decide +kernel
theorem dc_O_count_48 : decode cb_O_count 48 = .ok (.iconst 3, 1) := by decide +kernel
theorem dc_O_count_49 : decode cb_O_count 49 = .ok (.if_icmp .ne 14, 3) := by decide +kernel
theorem dc_O_count_52 : decode cb_O_count 52 = .ok (.aload_n 0, 1) := by decide +kernel
theorem dc_O_count_53 : decode cb_O_count 53 = .ok (.iload_n 3, 1) := by decide +kernel
theorem dc_O_count_54 : decode cb_O_count 54 = .ok (.invokevirtual 128, 3) := by decide +kernel
theorem dc_O_count_57 : decode cb_O_count 57 = .ok (.ifCond .eq 19, 3) := by decide +kernel
theorem dc_O_count_60 : decode cb_O_count 60 = .ok (.goto 13, 3) := by decide +kernel
theorem dc_O_count_63 : decode cb_O_count 63 = .ok (.aload_n 0, 1) := by decide +kernel
theorem dc_O_count_64 : decode cb_O_count 64 = .ok (.getfield 43, 3) := by decide +kernel
theorem dc_O_count_67 : decode cb_O_count 67 = .ok (.iload_n 3, 1) := by decide +kernel
theorem dc_O_count_68 : decode cb_O_count 68 = .ok (.iaload, 1) := by decide +kernel
theorem dc_O_count_69 : decode cb_O_count 69 = .ok (.iconst 1, 1) := by decide +kernel
theorem dc_O_count_70 : decode cb_O_count 70 = .ok (.if_icmp .ne 6, 3) := by decide +kernel
theorem dc_O_count_73 : decode cb_O_count 73 = .ok (.iinc 2 1, 3) := by decide +kernel
theorem dc_O_count_76 : decode cb_O_count 76 = .ok (.iinc 3 1, 3) := by decide +kernel
theorem dc_O_count_79 : decode cb_O_count 79 = .ok (.goto (-37), 3) := by decide +kernel
theorem dc_O_count_82 : decode cb_O_count 82 = .ok (.iload_n 2, 1) := by decide +kernel
theorem dc_O_count_83 : decode cb_O_count 83 = .ok (.ireturn, 1) := by decide +kernel
theorem dc_O_add_0 : decode cb_O_add 0 = .ok (.aload_n 0, 1) := by decide +kernel
theorem dc_O_add_1 : decode cb_O_add 1 = .ok (.iconst 0, 1) := by decide +kernel
theorem dc_O_add_2 : decode cb_O_add 2 = .ok (.putfield 114, 3) := by decide +kernel
theorem dc_O_add_5 : decode cb_O_add 5 = .ok (.iload_n 1, 1) := by decide +kernel
theorem dc_O_add_6 : decode cb_O_add 6 = .ok (.iconst 0, 1) := by decide +kernel
theorem dc_O_add_7 : decode cb_O_add 7 = .ok (.iconst 4, 1) := by decide +kernel
theorem dc_O_add_8 : decode cb_O_add 8 = .ok (.invokestatic 117, 3) := by decide +kernel
theorem dc_O_add_11 : decode cb_O_add 11 = .ok (.ifCond .eq 13, 3) := by decide +kernel
theorem dc_O_add_14 : decode cb_O_add 14 = .ok (.iload_n 2, 1) := by decide +kernel
theorem dc_O_add_15 : decode cb_O_add 15 = .ok (.iload_n 3, 1) := by decide +kernel
theorem dc_O_add_16 : decode cb_O_add 16 = .ok (.iload 4, 2) := by decide +kernel
theorem dc_O_add_18 : decode cb_O_add 18 = .ok (.invokestatic 121, 3) := by decide +kernel
theorem dc_O_add_21 : decode cb_O_add 21 = .ok (.ifCond .ne 9, 3) := by decide +kernel
theorem dc_O_add_24 : decode cb_O_add 24 = .ok (.aload_n 0, 1) := by decide +kernel
theorem dc_O_add_25 : decode cb_O_add 25 = .ok (.iconst 1, 1) := by decide +kernel
theorem dc_O_add_26 : decode cb_O_add 26 = .ok (.invokevirtual 124, 3) := by decide +kernel
theorem dc_O_add_29 : decode cb_O_add 29 = .ok (.ireturn, 1) := by decide +kernel
theorem dc_O_add_30 : decode cb_O_add 30 = .ok (.aload_n 0, 1) := by decide +kernel
theorem dc_O_add_31 : decode cb_O_add 31 = .ok (.iload_n 1, 1) := by decide +kernel
theorem dc_O_add_32 : decode cb_O_add 32 = .ok (.invokevirtual 128, 3) := by decide +kernel
theorem dc_O_add_35 : decode cb_O_add 35 = .ok (.ifCond .eq 9, 3) := by decide +kernel
theorem dc_O_add_38 : decode cb_O_add 38 = .ok (.aload_n 0, 1) := by decide +kernel
theorem dc_O_add_39 : decode cb_O_add 39 = .ok (.iconst 2, 1) := by decide +kernel
theorem dc_O_add_40 : decode cb_O_add 40 = .ok (.invokevirtual 124, 3) := by decide +kernel
theorem dc_O_add_43 : decode cb_O_add 43 = .ok (.ireturn, 1) := by decide +kernel
theorem dc_O_add_44 : decode cb_O_add 44 = .ok (.aload_n 0, 1) := by decide +kernel
theorem dc_O_add_45 : decode cb_O_add 45 = .ok (.getfield 19, 3) := by decide +kernel
theorem dc_O_add_48 : decode cb_O_add 48 = .ok (.iload_n 1, 1) := by decide +kernel
theorem dc_O_add_49 : decode cb_O_add 49 = .ok (.iaload, 1) := by decide +kernel
theorem dc_O_add_50 : decode cb_O_add 50 = .ok (.bipush 24, 2) := by decide +kernel
theorem dc_O_add_52 : decode cb_O_add 52 = .ok (.if_icmp .ne 9, 3) := by decide +kernel
theorem dc_O_add_55 : decode cb_O_add 55 = .ok (.aload_n 0, 1) := by decide +kernel
theorem dc_O_add_56 : decode cb_O_add 56 = .ok (.iconst 3, 1) := by decide +kernel
theorem dc_O_add_57 : decode cb_O_add 57 = .ok (.invokevirtual 124, 3) := by decide +kernel
theorem dc_O_add_60 : decode cb_O_add 60 = .ok (.ireturn, 1) := by decide +kernel
theorem dc_O_add_61 : decode cb_O_add 61 = .ok (.bipush 24, 2) := by decide +kernel
theorem dc_O_add_63 : decode cb_O_add 63 = .ok (.iload_n 1, 1) := by decide +kernel
theorem dc_O_add_64 : decode cb_O_add 64 = .ok (.imul, 1) := by decide +kernel
theorem dc_O_add_65 : decode cb_O_add 65 = .ok (.aload_n 0, 1) := by decide +kernel
theorem dc_O_add_66 : decode cb_O_add 66 = .ok (.getfield 19, 3) := by decide +kernel
theorem dc_O_add_69 : decode cb_O_add 69 = .ok (.iload_n 1, 1) := by decide +kernel
theorem dc_O_add_70 : decode cb_O_add 70 = .ok (.iaload, 1) := by decide +kernel
theorem dc_O_add_71 : decode cb_O_add 71 = .ok (.iadd, 1) := by decide +kernel
theorem dc_O_add_72 : decode cb_O_add 72 = .ok (.istore 5, 2) := by decide +kernel
theorem dc_O_add_74 : decode cb_O_add 74 = .ok (.aload_n 0, 1) := by decide +kernel
theorem dc_O_add_75 : decode cb_O_add 75 = .ok (.getfield 7, 3) := by decide +kernel
theorem dc_O_add_78 : decode cb_O_add 78 = .ok (.iload 5, 2) := by decide +kernel
theorem dc_O_add_80 : decode cb_O_add 80 = .ok (.iload_n 2, 1) := by decide +kernel
theorem dc_O_add_81 : decode cb_O_add 81 = .ok (.iastore, 1) := by decide +kernel
theorem dc_O_add_82 : decode cb_O_add 82 = .ok (.aload_n 0, 1) := by decide +kernel
theorem dc_O_add_83 : decode cb_O_add 83 = .ok (.getfield 13, 3) := by decide +kernel
theorem dc_O_add_86 : decode cb_O_add 86 = .ok (.iload 5, 2) := by decide +kernel
theorem dc_O_add_88 : decode cb_O_add 88 = .ok (.iload_n 3, 1) := by decide +kernel
theorem dc_O_add_89 : decode cb_O_add 89 = .ok (.iastore, 1) := by decide +kernel
theorem dc_O_add_90 : decode cb_O_add 90 = .ok (.aload_n 0, 1) := by decide +kernel
theorem dc_O_add_91 : decode cb_O_add 91 = .ok (.getfield 16, 3) := by decide +kernel
theorem dc_O_add_94 : decode cb_O_add 94 = .ok (.iload 5, 2) := by decide +kernel
theorem dc_O_add_96 : decode cb_O_add 96 = .ok (.iload 4, 2) := by decide +kernel
theorem dc_O_add_98 : decode cb_O_add 98 = .ok (.iastore, 1) := by decide +kernel
theorem dc_O_add_99 : decode cb_O_add 99 = .ok (.aload_n 0, 1) := by decide +kernel
theorem dc_O_add_100 : decode cb_O_add 100 = .ok (.getfield 19, 3) := by decide +kernel
theorem dc_O_add_103 : decode cb_O_add 103 = .ok (.iload_n 1, 1) := by decide +kernel
theorem dc_O_add_104 : decode cb_O_add 104 = .ok (.dup2, 1) := by decide +kernel
theorem dc_O_add_105 : decode cb_O_add 105 = .ok (.iaload, 1) := by decide +kernel
theorem dc_O_add_106 : decode cb_O_add 106 = .ok (.iconst 1, 1) := by decide +kernel
theorem dc_O_add_107 : decode cb_O_add 107 = .ok (.iadd, 1) := by decide +kernel
theorem dc_O_add_108 : decode cb_O_add 108 = .ok (.dup_x2, 1) := by decide +kernel
theorem dc_O_add_109 : decode cb_O_add 109 = .ok (.iastore, 1) := by decide +kernel
theorem dc_O_add_110 : decode cb_O_add 110 = .ok (.ireturn, 1) := by decide +kernel
theorem dc_O_goFor_0 : decode cb_O_goFor 0 = .ok (.aload_n 0, 1) := by decide +kernel
theorem dc_O_goFor_1 : decode cb_O_goFor 1 = .ok (.getfield 80, 3) := by decide +kernel
theorem dc_O_goFor_4 : decode cb_O_goFor 4 = .ok (.iload_n 2, 1) := by decide +kernel
theorem dc_O_goFor_5 : decode cb_O_goFor 5 = .ok (.iaload, 1) := by decide +kernel
theorem dc_O_goFor_6 : decode cb_O_goFor 6 = .ok (.iconst (-1), 1) := by decide +kernel
theorem dc_O_goFor_7 : decode cb_O_goFor 7 = .ok (.if_icmp .eq 13, 3) := by decide +kernel
theorem dc_O_goFor_10 : decode cb_O_goFor 10 = .ok (.aload_n 0, 1) := by decide +kernel
theorem dc_O_goFor_11 : decode cb_O_goFor 11 = .ok (.getfield 80, 3) := by decide +kernel
theorem dc_O_goFor_14 : decode cb_O_goFor 14 = .ok (.iload_n 2, 1) := by decide +kernel
theorem dc_O_goFor_15 : decode cb_O_goFor 15 = .ok (.iaload, 1) := by decide +kernel
theorem dc_O_goFor_16 : decode cb_O_goFor 16 = .ok (.iload_n 1, 1) := by decide +kernel
theorem dc_O_goFor_17 : decode cb_O_goFor 17 = .ok (.if_icmp .ne 28, 3) := by decide +kernel
theorem dc_O_goFor_20 : decode cb_O_goFor 20 = .ok (.aload_n 0, 1) := by decide +kernel
theorem dc_O_goFor_21 : decode cb_O_goFor 21 = .ok (.getfield 80, 3) := by decide +kernel
theorem dc_O_goFor_24 : decode cb_O_goFor 24 = .ok (.iload_n 2, 1) := by decide +kernel
theorem dc_O_goFor_25 : decode cb_O_goFor 25 = .ok (.iload_n 1, 1) := by decide +kernel
theorem dc_O_goFor_26 : decode cb_O_goFor 26 = .ok (.iastore, 1) := by decide +kernel
theorem dc_O_goFor_27 : decode cb_O_goFor 27 = .ok (.aload_n 0, 1) := by decide +kernel
theorem dc_O_goFor_28 : decode cb_O_goFor 28 = .ok (.getfield 83, 3) := by decide +kernel
theorem dc_O_goFor_31 : decode cb_O_goFor 31 = .ok (.iload_n 2, 1) := by decide +kernel
theorem dc_O_goFor_32 : decode cb_O_goFor 32 = .ok (.dup2, 1) := by decide +kernel
theorem dc_O_goFor_33 : decode cb_O_goFor 33 = .ok (.iaload, 1) := by decide +kernel
theorem dc_O_goFor_34 : decode cb_O_goFor 34 = .ok (.iload_n 3, 1) := by decide +kernel
theorem dc_O_goFor_35 : decode cb_O_goFor 35 = .ok (.iadd, 1) := by decide +kernel
theorem dc_O_goFor_36 : decode cb_O_goFor 36 = .ok (.iastore, 1) := by decide +kernel
theorem dc_O_goFor_37 : decode cb_O_goFor 37 = .ok (.aload_n 0, 1) := by decide +kernel
theorem dc_O_goFor_38 : decode cb_O_goFor 38 = .ok (.getfield 43, 3) := by decide +kernel
theorem dc_O_goFor_41 : decode cb_O_goFor 41 = .ok (.iload_n 1, 1) := by decide +kernel
theorem dc_O_goFor_42 : decode cb_O_goFor 42 = .ok (.iconst 1, 1) := by decide +kernel
theorem dc_O_goFor_43 : decode cb_O_goFor 43 = .ok (.iastore, 1) := by decide +kernel
theorem dc_O_goFor_44 : decode cb_O_goFor 44 = .ok (.return_, 1) := by decide +kernel
theorem dc_O_goFor_45 : decode cb_O_goFor 45 = .ok (.aload_n 0, 1) := by decide +kernel
theorem dc_O_goFor_46 : decode cb_O_goFor 46 = .ok (.getfield 61, 3) := by decide +kernel
theorem dc_O_goFor_49 : decode cb_O_goFor 49 = .ok (.iload_n 1, 1) := by decide +kernel
theorem dc_O_goFor_50 : decode cb_O_goFor 50 = .ok (.iload_n 2, 1) := by decide +kernel
theorem dc_O_goFor_51 : decode cb_O_goFor 51 = .ok (.iastore, 1) := by decide +kernel
theorem dc_O_goFor_52 : decode cb_O_goFor 52 = .ok (.aload_n 0, 1) := by decide +kernel
theorem dc_O_goFor_53 : decode cb_O_goFor 53 = .ok (.getfield 64, 3) := by decide +kernel
theorem dc_O_goFor_56 : decode cb_O_goFor 56 = .ok (.iload_n 1, 1) := by decide +kernel
theorem dc_O_goFor_57 : decode cb_O_goFor 57 = .ok (.iload_n 3, 1) := by decide +kernel
theorem dc_O_goFor_58 : decode cb_O_goFor 58 = .ok (.iastore, 1) := by decide +kernel
theorem dc_O_goFor_59 : decode cb_O_goFor 59 = .ok (.aload_n 0, 1) := by decide +kernel
theorem dc_O_goFor_60 : decode cb_O_goFor 60 = .ok (.getfield 86, 3) := by decide +kernel
theorem dc_O_goFor_63 : decode cb_O_goFor 63 = .ok (.iconst 5, 1) := by decide +kernel
theorem dc_O_goFor_64 : decode cb_O_goFor 64 = .ok (.iload_n 2, 1) := by decide +kernel
theorem dc_O_goFor_65 : decode cb_O_goFor 65 = .ok (.imul, 1) := by decide +kernel
theorem dc_O_goFor_66 : decode cb_O_goFor 66 = .ok (.aload_n 0, 1) := by decide +kernel
theorem dc_O_goFor_67 : decode cb_O_goFor 67 = .ok (.getfield 89, 3) := by decide +kernel
theorem dc_O_goFor_70 : decode cb_O_goFor 70 = .ok (.iload_n 2, 1) := by decide +kernel
theorem dc_O_goFor_71 : decode cb_O_goFor 71 = .ok (.dup2, 1) := by decide +kernel
theorem dc_O_goFor_72 : decode cb_O_goFor 72 = .ok (.iaload, 1) := by decide +kernel
theorem dc_O_goFor_73 : decode cb_O_goFor 73 = .ok (.dup_x2, 1) := by decide +kernel
theorem dc_O_goFor_74 : decode cb_O_goFor 74 = .ok (.iconst 1, 1) := by decide +kernel
theorem dc_O_goFor_75 : decode cb_O_goFor 75 = .ok (.iadd, 1) := by decide +kernel
theorem dc_O_goFor_76 : decode cb_O_goFor 76 = .ok (.iastore, 1) := by decide +kernel
theorem dc_O_goFor_77 : decode cb_O_goFor 77 = .ok (.iadd, 1) := by decide +kernel
theorem dc_O_goFor_78 : decode cb_O_goFor 78 = .ok (.iload_n 1, 1) := by decide +kernel
theorem dc_O_goFor_79 : decode cb_O_goFor 79 = .ok (.iastore, 1) := by decide +kernel
theorem dc_O_goFor_80 : decode cb_O_goFor 80 = .ok (.aload_n 0, 1) := by decide +kernel
theorem dc_O_goFor_81 : decode cb_O_goFor 81 = .ok (.getfield 43, 3) := by decide +kernel
theorem dc_O_goFor_84 : decode cb_O_goFor 84 = .ok (.iload_n 1, 1) := by decide +kernel
theorem dc_O_goFor_85 : decode cb_O_goFor 85 = .ok (.iconst 2, 1) := by decide +kernel
theorem dc_O_goFor_86 : decode cb_O_goFor 86 = .ok (.iastore, 1) := by decide +kernel
theorem dc_O_goFor_87 : decode cb_O_goFor 87 = .ok (.return_, 1) := by decide +kernel
theorem dc_O_pass_0 : decode cb_O_pass 0 = .ok (.aload_n 0, 1) := by decide +kernel
theorem dc_O_pass_1 : decode cb_O_pass 1 = .ok (.getfield 80, 3) := by decide +kernel
theorem dc_O_pass_4 : decode cb_O_pass 4 = .ok (.iload_n 1, 1) := by decide +kernel
theorem dc_O_pass_5 : decode cb_O_pass 5 = .ok (.iconst (-1), 1) := by decide +kernel
theorem dc_O_pass_6 : decode cb_O_pass 6 = .ok (.iastore, 1) := by decide +kernel
theorem dc_O_pass_7 : decode cb_O_pass 7 = .ok (.aload_n 0, 1) := by decide +kernel
theorem dc_O_pass_8 : decode cb_O_pass 8 = .ok (.getfield 83, 3) := by decide +kernel
theorem dc_O_pass_11 : decode cb_O_pass 11 = .ok (.iload_n 1, 1) := by decide +kernel
theorem dc_O_pass_12 : decode cb_O_pass 12 = .ok (.iconst 0, 1) := by decide +kernel
theorem dc_O_pass_13 : decode cb_O_pass 13 = .ok (.iastore, 1) := by decide +kernel
theorem dc_O_pass_14 : decode cb_O_pass 14 = .ok (.aload_n 0, 1) := by decide +kernel
theorem dc_O_pass_15 : decode cb_O_pass 15 = .ok (.getfield 89, 3) := by decide +kernel
theorem dc_O_pass_18 : decode cb_O_pass 18 = .ok (.iload_n 1, 1) := by decide +kernel
theorem dc_O_pass_19 : decode cb_O_pass 19 = .ok (.iaload, 1) := by decide +kernel
theorem dc_O_pass_20 : decode cb_O_pass 20 = .ok (.ifCond .ne 4, 3) := by decide +kernel
theorem dc_O_pass_23 : decode cb_O_pass 23 = .ok (.return_, 1) := by decide +kernel
theorem dc_O_pass_24 : decode cb_O_pass 24 = .ok (.aload_n 0, 1) := by decide +kernel
theorem dc_O_pass_25 : decode cb_O_pass 25 = .ok (.getfield 86, 3) := by decide +kernel
theorem dc_O_pass_28 : decode cb_O_pass 28 = .ok (.iconst 5, 1) := by decide +kernel
theorem dc_O_pass_29 : decode cb_O_pass 29 = .ok (.iload_n 1, 1) := by decide +kernel
theorem dc_O_pass_30 : decode cb_O_pass 30 = .ok (.imul, 1) := by decide +kernel
theorem dc_O_pass_31 : decode cb_O_pass 31 = .ok (.iaload, 1) := by decide +kernel
theorem dc_O_pass_32 : decode cb_O_pass 32 = .ok (.istore_n 2, 1) := by decide +kernel
theorem dc_O_pass_33 : decode cb_O_pass 33 = .ok (.aload_n 0, 1) := by decide +kernel
theorem dc_O_pass_34 : decode cb_O_pass 34 = .ok (.getfield 89, 3) := by decide +kernel
theorem dc_O_pass_37 : decode cb_O_pass 37 = .ok (.iload_n 1, 1) := by decide +kernel
theorem dc_O_pass_38 : decode cb_O_pass 38 = .ok (.dup2, 1) := by decide +kernel
theorem dc_O_pass_39 : decode cb_O_pass 39 = .ok (.iaload, 1) := by decide +kernel
theorem dc_O_pass_40 : decode cb_O_pass 40 = .ok (.iconst 1, 1) := by decide +kernel
theorem dc_O_pass_41 : decode cb_O_pass 41 = .ok (.isub, 1) := by decide +kernel
theorem dc_O_pass_42 : decode cb_O_pass 42 = .ok (.iastore, 1) := by decide +kernel
theorem dc_O_pass_43 : decode cb_O_pass 43 = .ok (.iconst 0, 1) := by decide +kernel
theorem dc_O_pass_44 : decode cb_O_pass 44 = .ok (.istore_n 3, 1) := by decide +kernel
theorem dc_O_pass_45 : decode cb_O_pass 45 = .ok (.iload_n 3, 1) := by decide +kernel
theorem dc_O_pass_46 : decode cb_O_pass 46 = .ok (.aload_n 0, 1) := by decide +kernel
theorem dc_O_pass_47 : decode cb_O_pass 47 = .ok (.getfield 89, 3) := by decide +kernel
theorem dc_O_pass_50 : decode cb_O_pass 50 = .ok (.iload_n 1, 1) := by decide +kernel
theorem dc_O_pass_51 : decode cb_O_pass 51 = .ok (.iaload, 1) := by decide +kernel
theorem dc_O_pass_52 : decode cb_O_pass 52 = .ok (.if_icmp .ge 31, 3) := by decide +kernel
theorem dc_O_pass_55 : decode cb_O_pass 55 = .ok (.aload_n 0, 1) := by decide +kernel
theorem dc_O_pass_56 : decode cb_O_pass 56 = .ok (.getfield 86, 3) := by decide +kernel
theorem dc_O_pass_59 : decode cb_O_pass 59 = .ok (.iconst 5, 1) := by decide +kernel
theorem dc_O_pass_60 : decode cb_O_pass 60 = .ok (.iload_n 1, 1) := by decide +kernel
theorem dc_O_pass_61 : decode cb_O_pass 61 = .ok (.imul, 1) := by decide +kernel
theorem dc_O_pass_62 : decode cb_O_pass 62 = .ok (.iload_n 3, 1) := by decide +kernel
theorem dc_O_pass_63 : decode cb_O_pass 63 = .ok (.iadd, 1) := by decide +kernel
theorem dc_O_pass_64 : decode cb_O_pass 64 = .ok (.aload_n 0, 1) := by decide +kernel
theorem dc_O_pass_65 : decode cb_O_pass 65 = .ok (.getfield 86, 3) := by decide +kernel
theorem dc_O_pass_68 : decode cb_O_pass 68 = .ok (.iconst 5, 1) := by decide +kernel
theorem dc_O_pass_69 : decode cb_O_pass 69 = .ok (.iload_n 1, 1) := by decide +kernel
theorem dc_O_pass_70 : decode cb_O_pass 70 = .ok (.imul, 1) := by decide +kernel
theorem dc_O_pass_71 : decode cb_O_pass 71 = .ok (.iload_n 3, 1) := by decide +kernel
theorem dc_O_pass_72 : decode cb_O_pass 72 = .ok (.iadd, 1) := by decide +kernel
theorem dc_O_pass_73 : decode cb_O_pass 73 = .ok (.iconst 1, 1) := by decide +kernel
theorem dc_O_pass_74 : decode cb_O_pass 74 = .ok (.iadd, 1) := by decide +kernel
theorem dc_O_pass_75 : decode cb_O_pass 75 = .ok (.iaload, 1) := by decide +kernel
theorem dc_O_pass_76 : decode cb_O_pass 76 = .ok (.iastore, 1) := by decide +kernel
theorem dc_O_pass_77 : decode cb_O_pass 77 = .ok (.iinc 3 1, 3) := by decide +kernel
theorem dc_O_pass_80 : decode cb_O_pass 80 = .ok (.goto (-35), 3) := by decide +kernel
theorem dc_O_pass_83 : decode cb_O_pass 83 = .ok (.aload_n 0, 1) := by decide +kernel
theorem dc_O_pass_84 : decode cb_O_pass 84 = .ok (.getfield 80, 3) := by decide +kernel
theorem dc_O_pass_87 : decode cb_O_pass 87 = .ok (.iload_n 1, 1) := by decide +kernel
theorem dc_O_pass_88 : decode cb_O_pass 88 = .ok (.iload_n 2, 1) := by decide +kernel
theorem dc_O_pass_89 : decode cb_O_pass 89 = .ok (.iastore, 1) := by decide +kernel
theorem dc_O_pass_90 : decode cb_O_pass 90 = .ok (.aload_n 0, 1) := by decide +kernel
theorem dc_O_pass_91 : decode cb_O_pass 91 = .ok (.getfield 83, 3) := by decide +kernel
theorem dc_O_pass_94 : decode cb_O_pass 94 = .ok (.iload_n 1, 1) := by decide +kernel
theorem dc_O_pass_95 : decode cb_O_pass 95 = .ok (.aload_n 0, 1) := by decide +kernel
theorem dc_O_pass_96 : decode cb_O_pass 96 = .ok (.getfield 64, 3) := by decide +kernel
theorem dc_O_pass_99 : decode cb_O_pass 99 = .ok (.iload_n 2, 1) := by decide +kernel
theorem dc_O_pass_100 : decode cb_O_pass 100 = .ok (.iaload, 1) := by decide +kernel
theorem dc_O_pass_101 : decode cb_O_pass 101 = .ok (.iastore, 1) := by decide +kernel
theorem dc_O_pass_102 : decode cb_O_pass 102 = .ok (.aload_n 0, 1) := by decide +kernel
theorem dc_O_pass_103 : decode cb_O_pass 103 = .ok (.getfield 43, 3) := by decide +kernel
theorem dc_O_pass_106 : decode cb_O_pass 106 = .ok (.iload_n 2, 1) := by decide +kernel
theorem dc_O_pass_107 : decode cb_O_pass 107 = .ok (.iconst 1, 1) := by decide +kernel
theorem dc_O_pass_108 : decode cb_O_pass 108 = .ok (.iastore, 1) := by decide +kernel
theorem dc_O_pass_109 : decode cb_O_pass 109 = .ok (.return_, 1) := by decide +kernel
theorem dc_O_leaveWait_0 : decode cb_O_leaveWait 0 = .ok (.aload_n 0, 1) := by decide +kernel
theorem dc_O_leaveWait_1 : decode cb_O_leaveWait 1 = .ok (.getfield 67, 3) := by decide +kernel
theorem dc_O_leaveWait_4 : decode cb_O_leaveWait 4 = .ok (.iload_n 1, 1) := by decide +kernel
theorem dc_O_leaveWait_5 : decode cb_O_leaveWait 5 = .ok (.iaload, 1) := by decide +kernel
theorem dc_O_leaveWait_6 : decode cb_O_leaveWait 6 = .ok (.istore_n 2, 1) := by decide +kernel
theorem dc_O_leaveWait_7 : decode cb_O_leaveWait 7 = .ok (.iconst 0, 1) := by decide +kernel
theorem dc_O_leaveWait_8 : decode cb_O_leaveWait 8 = .ok (.istore_n 3, 1) := by decide +kernel
theorem dc_O_leaveWait_9 : decode cb_O_leaveWait 9 = .ok (.iconst 0, 1) := by decide +kernel
theorem dc_O_leaveWait_10 : decode cb_O_leaveWait 10 = .ok (.istore 4, 2) := by decide +kernel
theorem dc_O_leaveWait_12 : decode cb_O_leaveWait 12 = .ok (.iload 4, 2) := by decide +kernel
theorem dc_O_leaveWait_14 : decode cb_O_leaveWait 14 = .ok (.aload_n 0, 1) := by decide +kernel
theorem dc_O_leaveWait_15 : decode cb_O_leaveWait 15 = .ok (.getfield 95, 3) := by decide +kernel
theorem dc_O_leaveWait_18 : decode cb_O_leaveWait 18 = .ok (.iload_n 2, 1) := by decide +kernel
theorem dc_O_leaveWait_19 : decode cb_O_leaveWait 19 = .ok (.iaload, 1) := by decide +kernel
theorem dc_O_leaveWait_20 : decode cb_O_leaveWait 20 = .ok (.if_icmp .ge 48, 3) := by decide +kernel
theorem dc_O_leaveWait_23 : decode cb_O_leaveWait 23 = .ok (.aload_n 0, 1) := by decide +kernel
theorem dc_O_leaveWait_24 : decode cb_O_leaveWait 24 = .ok (.getfield 92, 3) := by decide +kernel
theorem dc_O_leaveWait_27 : decode cb_O_leaveWait 27 = .ok (.iconst 5, 1) := by decide +kernel
theorem dc_O_leaveWait_28 : decode cb_O_leaveWait 28 = .ok (.iload_n 2, 1) := by decide +kernel
theorem dc_O_leaveWait_29 : decode cb_O_leaveWait 29 = .ok (.imul, 1) := by decide +kernel
theorem dc_O_leaveWait_30 : decode cb_O_leaveWait 30 = .ok (.iload 4, 2) := by decide +kernel
theorem dc_O_leaveWait_32 : decode cb_O_leaveWait 32 = .ok (.iadd, 1) := by decide +kernel
theorem dc_O_leaveWait_33 : decode cb_O_leaveWait 33 = .ok (.iaload, 1) := by decide +kernel
theorem dc_O_leaveWait_34 : decode cb_O_leaveWait 34 = .ok (.iload_n 1, 1) := by decide +kernel
theorem dc_O_leaveWait_35 : decode cb_O_leaveWait 35 = .ok (.if_icmp .eq 27, 3) := by decide +kernel
theorem dc_O_leaveWait_38 : decode cb_O_leaveWait 38 = .ok (.aload_n 0, 1) := by decide +kernel
theorem dc_O_leaveWait_39 : decode cb_O_leaveWait 39 = .ok (.getfield 92, 3) := by decide +kernel
theorem dc_O_leaveWait_42 : decode cb_O_leaveWait 42 = .ok (.iconst 5, 1) := by decide +kernel
theorem dc_O_leaveWait_43 : decode cb_O_leaveWait 43 = .ok (.iload_n 2, 1) := by decide +kernel
theorem dc_O_leaveWait_44 : decode cb_O_leaveWait 44 = .ok (.imul, 1) := by decide +kernel
theorem dc_O_leaveWait_45 : decode cb_O_leaveWait 45 = .ok (.iload_n 3, 1) := by decide +kernel
theorem dc_O_leaveWait_46 : decode cb_O_leaveWait 46 = .ok (.iinc 3 1, 3) := by decide +kernel
theorem dc_O_leaveWait_49 : decode cb_O_leaveWait 49 = .ok (.iadd, 1) := by decide +kernel
theorem dc_O_leaveWait_50 : decode cb_O_leaveWait 50 = .ok (.aload_n 0, 1) := by decide +kernel
theorem dc_O_leaveWait_51 : decode cb_O_leaveWait 51 = .ok (.getfield 92, 3) := by decide +kernel
theorem dc_O_leaveWait_54 : decode cb_O_leaveWait 54 = .ok (.iconst 5, 1) := by decide +kernel
theorem dc_O_leaveWait_55 : decode cb_O_leaveWait 55 = .ok (.iload_n 2, 1) := by decide +kernel
theorem dc_O_leaveWait_56 : decode cb_O_leaveWait 56 = .ok (.imul, 1) := by decide +kernel
theorem dc_O_leaveWait_57 : decode cb_O_leaveWait 57 = .ok (.iload 4, 2) := by decide +kernel
theorem dc_O_leaveWait_59 : decode cb_O_leaveWait 59 = .ok (.iadd, 1) := by decide +kernel
theorem dc_O_leaveWait_60 : decode cb_O_leaveWait 60 = .ok (.iaload, 1) := by decide +kernel
theorem dc_O_leaveWait_61 : decode cb_O_leaveWait 61 = .ok (.iastore, 1) := by decide +kernel
theorem dc_O_leaveWait_62 : decode cb_O_leaveWait 62 = .ok (.iinc 4 1, 3) := by decide +kernel
theorem dc_O_leaveWait_65 : decode cb_O_leaveWait 65 = .ok (.goto (-53), 3) := by decide +kernel
theorem dc_O_leaveWait_68 : decode cb_O_leaveWait 68 = .ok (.aload_n 0, 1) := by decide +kernel
theorem dc_O_leaveWait_69 : decode cb_O_leaveWait 69 = .ok (.getfield 95, 3) := by decide +kernel
theorem dc_O_leaveWait_72 : decode cb_O_leaveWait 72 = .ok (.iload_n 2, 1) := by decide +kernel
theorem dc_O_leaveWait_73 : decode cb_O_leaveWait 73 = .ok (.iload_n 3, 1) := by decide +kernel
theorem dc_O_leaveWait_74 : decode cb_O_leaveWait 74 = .ok (.iastore, 1) := by decide +kernel
theorem dc_O_leaveWait_75 : decode cb_O_leaveWait 75 = .ok (.aload_n 0, 1) := by decide +kernel
theorem dc_O_leaveWait_76 : decode cb_O_leaveWait 76 = .ok (.iload_n 1, 1) := by decide +kernel
theorem dc_O_leaveWait_77 : decode cb_O_leaveWait 77 = .ok (.aload_n 0, 1) := by decide +kernel
theorem dc_O_leaveWait_78 : decode cb_O_leaveWait 78 = .ok (.getfield 61, 3) := by decide +kernel
theorem dc_O_leaveWait_81 : decode cb_O_leaveWait 81 = .ok (.iload_n 1, 1) := by decide +kernel
theorem dc_O_leaveWait_82 : decode cb_O_leaveWait 82 = .ok (.iaload, 1) := by decide +kernel
theorem dc_O_leaveWait_83 : decode cb_O_leaveWait 83 = .ok (.aload_n 0, 1) := by decide +kernel
theorem dc_O_leaveWait_84 : decode cb_O_leaveWait 84 = .ok (.getfield 64, 3) := by decide +kernel
theorem dc_O_leaveWait_87 : decode cb_O_leaveWait 87 = .ok (.iload_n 1, 1) := by decide +kernel
theorem dc_O_leaveWait_88 : decode cb_O_leaveWait 88 = .ok (.iaload, 1) := by decide +kernel
theorem dc_O_leaveWait_89 : decode cb_O_leaveWait 89 = .ok (.invokevirtual 151, 3) := by decide +kernel
theorem dc_O_leaveWait_92 : decode cb_O_leaveWait 92 = .ok (.return_, 1) := by decide +kernel
theorem dc_O_leaveJoin_0 : decode cb_O_leaveJoin 0 = .ok (.aload_n 0, 1) := by decide +kernel
theorem dc_O_leaveJoin_1 : decode cb_O_leaveJoin 1 = .ok (.getfield 67, 3) := by decide +kernel
theorem dc_O_leaveJoin_4 : decode cb_O_leaveJoin 4 = .ok (.iload_n 1, 1) := by decide +kernel
theorem dc_O_leaveJoin_5 : decode cb_O_leaveJoin 5 = .ok (.iaload, 1) := by decide +kernel
theorem dc_O_leaveJoin_6 : decode cb_O_leaveJoin 6 = .ok (.istore_n 2, 1) := by decide +kernel
theorem dc_O_leaveJoin_7 : decode cb_O_leaveJoin 7 = .ok (.iconst 0, 1) := by decide +kernel
theorem dc_O_leaveJoin_8 : decode cb_O_leaveJoin 8 = .ok (.istore_n 3, 1) := by decide +kernel
theorem dc_O_leaveJoin_9 : decode cb_O_leaveJoin 9 = .ok (.iconst 0, 1) := by decide +kernel
theorem dc_O_leaveJoin_10 : decode cb_O_leaveJoin 10 = .ok (.istore 4, 2) := by decide +kernel
theorem dc_O_leaveJoin_12 : decode cb_O_leaveJoin 12 = .ok (.iload 4, 2) := by decide +kernel
theorem dc_O_leaveJoin_14 : decode cb_O_leaveJoin 14 = .ok (.aload_n 0, 1) := by decide +kernel
theorem dc_O_leaveJoin_15 : decode cb_O_leaveJoin 15 = .ok (.getfield 101, 3) := by decide +kernel
theorem dc_O_leaveJoin_18 : decode cb_O_leaveJoin 18 = .ok (.iload_n 2, 1) := by decide +kernel
theorem dc_O_leaveJoin_19 : decode cb_O_leaveJoin 19 = .ok (.iaload, 1) := by decide +kernel
theorem dc_O_leaveJoin_20 : decode cb_O_leaveJoin 20 = .ok (.if_icmp .ge 48, 3) := by decide +kernel
theorem dc_O_leaveJoin_23 : decode cb_O_leaveJoin 23 = .ok (.aload_n 0, 1) := by decide +kernel
theorem dc_O_leaveJoin_24 : decode cb_O_leaveJoin 24 = .ok (.getfield 98, 3) := by decide +kernel
theorem dc_O_leaveJoin_27 : decode cb_O_leaveJoin 27 = .ok (.iconst 5, 1) := by decide +kernel
theorem dc_O_leaveJoin_28 : decode cb_O_leaveJoin 28 = .ok (.iload_n 2, 1) := by decide +kernel
theorem dc_O_leaveJoin_29 : decode cb_O_leaveJoin 29 = .ok (.imul, 1) := by decide +kernel
theorem dc_O_leaveJoin_30 : decode cb_O_leaveJoin 30 = .ok (.iload 4, 2) := by decide +kernel
theorem dc_O_leaveJoin_32 : decode cb_O_leaveJoin 32 = .ok (.iadd, 1) := by decide +kernel
theorem dc_O_leaveJoin_33 : decode cb_O_leaveJoin 33 = .ok (.iaload, 1) := by decide +kernel
theorem dc_O_leaveJoin_34 : decode cb_O_leaveJoin 34 = .ok (.iload_n 1, 1) := by decide +kernel
theorem dc_O_leaveJoin_35 : decode cb_O_leaveJoin 35 = .ok (.if_icmp .eq 27, 3) := by decide +kernel
theorem dc_O_leaveJoin_38 : decode cb_O_leaveJoin 38 = .ok (.aload_n 0, 1) := by decide +kernel
theorem dc_O_leaveJoin_39 : decode cb_O_leaveJoin 39 = .ok (.getfield 98, 3) := by decide +kernel
theorem dc_O_leaveJoin_42 : decode cb_O_leaveJoin 42 = .ok (.iconst 5, 1) := by decide +kernel
theorem dc_O_leaveJoin_43 : decode cb_O_leaveJoin 43 = .ok (.iload_n 2, 1) := by decide +kernel
theorem dc_O_leaveJoin_44 : decode cb_O_leaveJoin 44 = .ok (.imul, 1) := by decide +kernel
theorem dc_O_leaveJoin_45 : decode cb_O_leaveJoin 45 = .ok (.iload_n 3, 1) := by decide +kernel
theorem dc_O_leaveJoin_46 : decode cb_O_leaveJoin 46 = .ok (.iinc 3 1, 3) := by decide +kernel
theorem dc_O_leaveJoin_49 : decode cb_O_leaveJoin 49 = .ok (.iadd, 1) := by decide +kernel
theorem dc_O_leaveJoin_50 : decode cb_O_leaveJoin 50 = .ok (.aload_n 0, 1) := by decide +kernel
theorem dc_O_leaveJoin_51 : decode cb_O_leaveJoin 51 = .ok (.getfield 98, 3) := by decide +kernel
theorem dc_O_leaveJoin_54 : decode cb_O_leaveJoin 54 = .ok (.iconst 5, 1) := by decide +kernel
theorem dc_O_leaveJoin_55 : decode cb_O_leaveJoin 55 = .ok (.iload_n 2, 1) := by decide +kernel
theorem dc_O_leaveJoin_56 : decode cb_O_leaveJoin 56 = .ok (.imul, 1) := by decide +kernel
theorem dc_O_leaveJoin_57 : decode cb_O_leaveJoin 57 = .ok (.iload 4, 2) := by decide +kernel
theorem dc_O_leaveJoin_59 : decode cb_O_leaveJoin 59 = .ok (.iadd, 1) := by decide +kernel
theorem dc_O_leaveJoin_60 : decode cb_O_leaveJoin 60 = .ok (.iaload, 1) := by decide +kernel
theorem dc_O_leaveJoin_61 : decode cb_O_leaveJoin 61 = .ok (.iastore, 1) := by decide +kernel
theorem dc_O_leaveJoin_62 : decode cb_O_leaveJoin 62 = .ok (.iinc 4 1, 3) := by decide +kernel
theorem dc_O_leaveJoin_65 : decode cb_O_leaveJoin 65 = .ok (.goto (-53), 3) := by decide +kernel
theorem dc_O_leaveJoin_68 : decode cb_O_leaveJoin 68 = .ok (.aload_n 0, 1) := by decide +kernel
theorem dc_O_leaveJoin_69 : decode cb_O_leaveJoin 69 = .ok (.getfield 101, 3) := by decide +kernel
theorem dc_O_leaveJoin_72 : decode cb_O_leaveJoin 72 = .ok (.iload_n 2, 1) := by decide +kernel
theorem dc_O_leaveJoin_73 : decode cb_O_leaveJoin 73 = .ok (.iload_n 3, 1) := by decide +kernel
theorem dc_O_leaveJoin_74 : decode cb_O_leaveJoin 74 = .ok (.iastore, 1) := by decide +kernel
theorem dc_O_leaveJoin_75 : decode cb_O_leaveJoin 75 = .ok (.aload_n 0, 1) := by decide +kernel
theorem dc_O_leaveJoin_76 : decode cb_O_leaveJoin 76 = .ok (.getfield 43, 3) := by decide +kernel
theorem dc_O_leaveJoin_79 : decode cb_O_leaveJoin 79 = .ok (.iload_n 1, 1) := by decide +kernel
theorem dc_O_leaveJoin_80 : decode cb_O_leaveJoin 80 = .ok (.iconst 1, 1) := by decide +kernel
theorem dc_O_leaveJoin_81 : decode cb_O_leaveJoin 81 = .ok (.iastore, 1) := by decide +kernel
theorem dc_O_leaveJoin_82 : decode cb_O_leaveJoin 82 = .ok (.return_, 1) := by decide +kernel
theorem fd_O_7 : th_fd rn_O 7 tf_O 36 0 := ⟨by decide, (tb 628 (by decide +kernel) rfl)⟩
theorem fd_O_13 : th_fd rn_O 13 tf_O 36 1 := ⟨by decide, (tb 629 (by decide +kernel) rfl)⟩
theorem fd_O_16 : th_fd rn_O 16 tf_O 36 2 := ⟨by decide, (tb 630 (by decide +kernel) rfl)⟩
theorem fd_O_19 : th_fd rn_O 19 tf_O 36 3 := ⟨by decide, (tb 631 (by decide +kernel) rfl)⟩
theorem fd_O_22 : th_fd rn_O 22 tf_O 36 4 := ⟨by decide, (tb 632 (by decide +kernel) rfl)⟩
theorem fd_O_25 : th_fd rn_O 25 tf_O 36 5 := ⟨by decide, (tb 633 (by decide +kernel) rfl)⟩
theorem fd_O_28 : th_fd rn_O 28 tf_O 36 6 := ⟨by decide, (tb 634 (by decide +kernel) rfl)⟩
theorem fd_O_31 : th_fd rn_O 31 tf_O 36 7 := ⟨by decide, (tb 635 (by decide +kernel) rfl)⟩
theorem fd_O_40 : th_fd rn_O 40 tf_O 36 10 := ⟨by decide, (tb 638 (by decide +kernel) rfl)⟩
theorem fd_O_43 : th_fd rn_O 43 tf_O 36 11 := ⟨by decide, (tb 639 (by decide +kernel) rfl)⟩
theorem fd_O_46 : th_fd rn_O 46 tf_O 36 12 := ⟨by decide, (tb 640 (by decide +kernel) rfl)⟩
theorem fd_O_49 : th_fd rn_O 49 tf_O 36 13 := ⟨by decide, (tb 641 (by decide +kernel) rfl)⟩
theorem fd_O_52 : th_fd rn_O 52 tf_O 36 14 := ⟨by decide, (tb 642 (by decide +kernel) rfl)⟩
theorem fd_O_55 : th_fd rn_O 55 tf_O 36 15 := ⟨by decide, (tb 643 (by decide +kernel) rfl)⟩
theorem fd_O_58 : th_fd rn_O 58 tf_O 36 16 := ⟨by decide, (tb 644 (by decide +kernel) rfl)⟩
theorem fd_O_61 : th_fd rn_O 61 tf_O 36 17 := ⟨by decide, (tb 645 (by decide +kernel) rfl)⟩
theorem fd_O_64 : th_fd rn_O 64 tf_O 36 18 := ⟨by decide, (tb 646 (by decide +kernel) rfl)⟩
theorem fd_O_67 : th_fd rn_O 67 tf_O 36 19 := ⟨by decide, (tb 647 (by decide +kernel) rfl)⟩
theorem fd_O_73 : th_fd rn_O 73 tf_O 36 21 := ⟨by decide, (tb 649 (by decide +kernel) rfl)⟩
theorem fd_O_77 : th_fd rn_O 77 tf_O 36 22 := ⟨by decide, (tb 650 (by decide +kernel) rfl)⟩
theorem fd_O_80 : th_fd rn_O 80 tf_O 36 23 := ⟨by decide, (tb 651 (by decide +kernel) rfl)⟩
theorem fd_O_83 : th_fd rn_O 83 tf_O 36 24 := ⟨by decide, (tb 652 (by decide +kernel) rfl)⟩
theorem fd_O_86 : th_fd rn_O 86 tf_O 36 25 := ⟨by decide, (tb 653 (by decide +kernel) rfl)⟩
theorem fd_O_89 : th_fd rn_O 89 tf_O 36 26 := ⟨by decide, (tb 654 (by decide +kernel) rfl)⟩
theorem fd_O_92 : th_fd rn_O 92 tf_O 36 27 := ⟨by decide, (tb 655 (by decide +kernel) rfl)⟩
theorem fd_O_95 : th_fd rn_O 95 tf_O 36 28 := ⟨by decide, (tb 656 (by decide +kernel) rfl)⟩
theorem fd_O_98 : th_fd rn_O 98 tf_O 36 29 := ⟨by decide, (tb 657 (by decide +kernel) rfl)⟩
theorem fd_O_101 : th_fd rn_O 101 tf_O 36 30 := ⟨by decide, (tb 658 (by decide +kernel) rfl)⟩
theorem fd_O_104 : th_fd rn_O 104 tf_O 36 31 := ⟨by decide, (tb 659 (by decide +kernel) rfl)⟩
theorem fd_O_107 : th_fd rn_O 107 tf_O 36 32 := ⟨by decide, (tb 660 (by decide +kernel) rfl)⟩
theorem fd_O_110 : th_fd rn_O 110 tf_O 36 33 := ⟨by decide, (tb 661 (by decide +kernel) rfl)⟩
theorem fd_O_114 : th_fd rn_O 114 tf_O 36 34 := ⟨by decide, (tb 662 (by decide +kernel) rfl)⟩
theorem ok_O_117 : th_okS rn_O 117 yn_O_is cb_O_is 3 (some .boolean) 3 := ⟨⟨(tb 748 (by decide +kernel) rfl), (tb 53 (by decide +kernel) rfl), (tb 746 (by decide +kernel) rfl), by decide, by decide, by decide⟩, (tb 747 (by decide +kernel) rfl)⟩
theorem ok_O_121 : th_okS rn_O 121 yn_O_fits cb_O_fits 3 (some .boolean) 3 := ⟨⟨(tb 751 (by decide +kernel) rfl), (tb 53 (by decide +kernel) rfl), (tb 749 (by decide +kernel) rfl), by decide, by decide, by decide⟩, (tb 750 (by decide +kernel) rfl)⟩
theorem ok_O_124 : th_okV rn_O 124 rn_O yn_O_refuse cb_O_refuse 2 (some .int) 1 := ⟨⟨(tb 755 (by decide +kernel) rfl), (tb 53 (by decide +kernel) rfl), (tb 752 (by decide +kernel) rfl), by decide, by decide, by decide⟩, (tb 754 (by decide +kernel) rfl), (tb 24 (by decide +kernel) rfl)⟩
theorem ok_O_128 : th_okV rn_O 128 rn_O yn_O_alive cb_O_alive 2 (some .boolean) 1 := ⟨⟨(tb 759 (by decide +kernel) rfl), (tb 53 (by decide +kernel) rfl), (tb 756 (by decide +kernel) rfl), by decide, by decide, by decide⟩, (tb 758 (by decide +kernel) rfl), (tb 25 (by decide +kernel) rfl)⟩
theorem ok_O_132 : th_okV rn_O 132 rn_O yn_O_bound cb_O_bound 4 (some .int) 2 := ⟨⟨(tb 791 (by decide +kernel) rfl), (tb 53 (by decide +kernel) rfl), (tb 788 (by decide +kernel) rfl), by decide, by decide, by decide⟩, (tb 790 (by decide +kernel) rfl), (tb 31 (by decide +kernel) rfl)⟩
theorem ok_O_136 : th_okV rn_O 136 rn_O yn_O_get cb_O_get 4 (some .int) 2 := ⟨⟨(tb 787 (by decide +kernel) rfl), (tb 53 (by decide +kernel) rfl), (tb 784 (by decide +kernel) rfl), by decide, by decide, by decide⟩, (tb 786 (by decide +kernel) rfl), (tb 30 (by decide +kernel) rfl)⟩
theorem ok_O_151 : th_okV rn_O 151 rn_O yn_O_goFor cb_O_goFor 4 none 3 := ⟨⟨(tb 819 (by decide +kernel) rfl), (tb 53 (by decide +kernel) rfl), (tb 816 (by decide +kernel) rfl), by decide, by decide, by decide⟩, (tb 818 (by decide +kernel) rfl), (tb 38 (by decide +kernel) rfl)⟩
theorem ok_O_179 : th_okV rn_O 179 rn_O yn_O_begin cb_O_begin 2 (some .boolean) 1 := ⟨⟨(tb 835 (by decide +kernel) rfl), (tb 53 (by decide +kernel) rfl), (tb 832 (by decide +kernel) rfl), by decide, by decide, by decide⟩, (tb 834 (by decide +kernel) rfl), (tb 42 (by decide +kernel) rfl)⟩
end
section
set_option maxRecDepth 100000 in
set_option maxHeartbeats 4000000 in
theorem o_O_is (l : Launch) (hl : l.stackTraces = false) (I : th_I) (v : Int32) (a : Int32) (b : Int32) : th_F l yn_O_is cb_O_is 3 (some .boolean) { frames := 0, cells := 0, slots := 0, locals := 0 } [.inl v, .inl a, .inl b] (th_m I) (th_rp I (fun x => x.toInt = 1 ∧ a.toInt ≤ v.toInt ∧ v.toInt ≤ b.toInt ∨ x.toInt = 0 ∧ ¬ (a.toInt ≤ v.toInt ∧ v.toInt ≤ b.toInt))) := by
  refine th_of hl (by decide +kernel) (Nat.le_of_ble_eq_true rfl) (fun z C hQ hN => ?_)
  show th_G l z 3 0 [(0, .inl v), (1, .inl a), (2, .inl b)] [] (th_m I) 0 0
  refine th_iload_n C dc_O_is_0 rfl rfl ?_
  refine th_iload_n C dc_O_is_1 rfl rfl ?_
  refine tq_icmp_lt (tgt := 14) C dc_O_is_2 (by decide) rfl rfl (fun c1 => ?_) (fun c1 => ?_)
  · refine th_iconst (v := 0) C dc_O_is_14 th_c_0 ?_
    exact th_zret C hQ dc_O_is_15 (rfl) (by decide) (by decide) ⟨_, rfl, rfl, (by have := th_l_0; first | omega | (dsimp only; omega))⟩
  · refine th_iload_n C dc_O_is_5 rfl rfl ?_
    refine th_iload_n C dc_O_is_6 rfl rfl ?_
    refine tq_icmp_gt (tgt := 14) C dc_O_is_7 (by decide) rfl rfl (fun c2 => ?_) (fun c2 => ?_)
    · refine th_iconst (v := 0) C dc_O_is_14 th_c_0 ?_
      exact th_zret C hQ dc_O_is_15 (rfl) (by decide) (by decide) ⟨_, rfl, rfl, (by have := th_l_0; first | omega | (dsimp only; omega))⟩
    · refine th_iconst (v := 1) C dc_O_is_10 th_c_1 ?_
      refine th_goto (tgt := 15) C dc_O_is_11 (by decide) ?_
      exact th_zret C hQ dc_O_is_15 (rfl) (by decide) (by decide) ⟨_, rfl, rfl, (by have := th_l_1; first | omega | (dsimp only; omega))⟩

set_option maxRecDepth 100000 in
set_option maxHeartbeats 4000000 in
theorem o_O_refuse (l : Launch) (hl : l.stackTraces = false) {K sl : Int} {Z : th_I} (I : th_I) (c : Int32) (hI : th_OI K sl Z I) : th_F l yn_O_refuse cb_O_refuse 2 (some .int) { frames := 0, cells := 0, slots := 0, locals := 0 } [.inr (some (20, 0)), .inl c] (th_m I) (th_ri (fun x J => th_OI K sl Z J ∧ (x.toInt = 0 ∧ (J 20 0 34).toInt = c.toInt))) := by
  refine th_of hl (by decide +kernel) (Nat.le_of_ble_eq_true rfl) (fun z C hQ hN => ?_)
  show th_G l z 2 0 [(0, .inr (some (20, 0))), (1, .inl c)] [] (th_m I) 0 0
  have hb := hI.2.2.1
  refine th_aload_n C dc_O_refuse_0 rfl rfl ?_
  refine th_iload_n C dc_O_refuse_1 rfl rfl ?_
  refine tq_putI C dc_O_refuse_2 cl_20 fd_O_114 rfl (show 0 < 1 from by omega) rfl rfl ?_
  refine th_gen (P := fun J => th_OI K sl Z J ∧ J = th_u I 20 0 34 c) ⟨ro_put hI rfl trivial, rfl⟩ (fun I1 hI1 => ?_)
  obtain ⟨hI1, u1⟩ := hI1
  have e1 : c = I1 20 0 34 := by rw [u1, th_u_eq]
  have g1 : c.toInt = (I1 20 0 34).toInt := by rw [← e1]
  refine th_iconst (v := 0) C dc_O_refuse_5 th_c_0 ?_
  exact th_iret C hQ dc_O_refuse_6 (by decide) (by decide) ⟨_, _, rfl, rfl, hI1, (by have := th_l_0; first | omega | (dsimp only; omega))⟩

set_option maxRecDepth 100000 in
set_option maxHeartbeats 4000000 in
theorem o_O_thrown (l : Launch) (hl : l.stackTraces = false) (I : th_I) : th_F l yn_O_thrown cb_O_thrown 1 (some .int) { frames := 0, cells := 0, slots := 0, locals := 0 } [.inr (some (20, 0))] (th_m I) (th_rp I (fun x => x.toInt = (I 20 0 34).toInt)) := by
  refine th_of hl (by decide +kernel) (Nat.le_of_ble_eq_true rfl) (fun z C hQ hN => ?_)
  show th_G l z 1 0 [(0, .inr (some (20, 0)))] [] (th_m I) 0 0
  refine th_aload_n C dc_O_thrown_0 rfl rfl ?_
  refine tq_getI C dc_O_thrown_1 cl_20 fd_O_114 rfl (show 0 < 1 from by omega) (fun x1 e1 => ?_)
  have g1 : x1.toInt = (I 20 0 34).toInt := by rw [e1]
  exact th_iret C hQ dc_O_thrown_4 (by decide) (by decide) ⟨_, rfl, rfl, (by first | omega | (dsimp only; omega))⟩

set_option maxRecDepth 100000 in
set_option maxHeartbeats 4000000 in
theorem o_O_alive (l : Launch) (hl : l.stackTraces = false) {K sl : Int} {Z : th_I} (I : th_I) (t : Int32) (tn : Nat) (hI : th_OI K sl Z I) (htn : (tn : Int) = t.toInt) (ht : 0 ≤ t.toInt ∧ t.toInt ≤ 4) : th_F l yn_O_alive cb_O_alive 2 (some .boolean) { frames := 0, cells := 0, slots := 0, locals := 0 } [.inr (some (20, 0)), .inl t] (th_m I) (th_rp I (fun x => x.toInt = 1 ∧ (I 32 0 tn).toInt ≠ 0 ∧ (I 32 0 tn).toInt ≠ 5 ∨ x.toInt = 0 ∧ ((I 32 0 tn).toInt = 0 ∨ (I 32 0 tn).toInt = 5))) := by
  refine th_of hl (by decide +kernel) (Nat.le_of_ble_eq_true rfl) (fun z C hQ hN => ?_)
  show th_G l z 2 0 [(0, .inr (some (20, 0))), (1, .inl t)] [] (th_m I) 0 0
  have hb := hI.2.2.1
  refine th_aload_n C dc_O_alive_0 rfl rfl ?_
  refine tq_getR C dc_O_alive_1 cl_20 fd_O_43 rfl (show 0 < 1 from by omega) rfl ?_
  refine th_iload_n C dc_O_alive_4 rfl rfl ?_
  refine tq_ialdN C dc_O_alive_5 rfl (fun _ => rfl) (show 0 < 1 from by omega) rfl htn (show tn < 5 from by omega) (fun x1 e1 => ?_)
  have g1 : x1.toInt = (I 32 0 tn).toInt := by rw [e1]
  refine tq_if_eq (tgt := 23) C dc_O_alive_6 (by decide) rfl (fun c2 => ?_) (fun c2 => ?_)
  · refine th_iconst (v := 0) C dc_O_alive_23 th_c_0 ?_
    exact th_zret C hQ dc_O_alive_24 (rfl) (by decide) (by decide) ⟨_, rfl, rfl, (by have := th_l_0; first | omega | (dsimp only; omega))⟩
  · refine th_aload_n C dc_O_alive_9 rfl rfl ?_
    refine tq_getR C dc_O_alive_10 cl_20 fd_O_43 rfl (show 0 < 1 from by omega) rfl ?_
    refine th_iload_n C dc_O_alive_13 rfl rfl ?_
    refine tq_ialdE C dc_O_alive_14 rfl (fun _ => rfl) (show 0 < 1 from by omega) rfl htn (show tn < 5 from by omega) e1 ?_
    refine th_iconst (v := 5) C dc_O_alive_15 th_c_5 ?_
    refine tq_icmp_eq (tgt := 23) C dc_O_alive_16 (by decide) rfl th_l_5 (fun c4 => ?_) (fun c4 => ?_)
    · refine th_iconst (v := 0) C dc_O_alive_23 th_c_0 ?_
      exact th_zret C hQ dc_O_alive_24 (rfl) (by decide) (by decide) ⟨_, rfl, rfl, (by have := th_l_0; first | omega | (dsimp only; omega))⟩
    · refine th_iconst (v := 1) C dc_O_alive_19 th_c_1 ?_
      refine th_goto (tgt := 24) C dc_O_alive_20 (by decide) ?_
      exact th_zret C hQ dc_O_alive_24 (rfl) (by decide) (by decide) ⟨_, rfl, rfl, (by have := th_l_1; first | omega | (dsimp only; omega))⟩

set_option maxRecDepth 100000 in
set_option maxHeartbeats 4000000 in
theorem o_O_bound (l : Launch) (hl : l.stackTraces = false) {K sl : Int} {Z : th_I} (I : th_I) (t : Int32) (s : Int32) (hI : th_OI K sl Z I) (ht : 0 ≤ t.toInt ∧ t.toInt ≤ 4) : th_F l yn_O_bound cb_O_bound 4 (some .int) { frames := 0, cells := 0, slots := 0, locals := 0 } [.inr (some (20, 0)), .inl t, .inl s] (th_m I) (th_rp I (fun x => -1 ≤ x.toInt ∧ x.toInt < 12 * t.toInt + 12)) := by
  refine th_of hl (by decide +kernel) (Nat.le_of_ble_eq_true rfl) (fun z C hQ hN => ?_)
  show th_G l z 4 0 [(0, .inr (some (20, 0))), (1, .inl t), (2, .inl s)] [] (th_m I) 0 0
  have hb := hI.2.2.1
  refine th_aload_n C dc_O_bound_0 rfl rfl ?_
  refine tq_getR C dc_O_bound_1 cl_20 fd_O_31 rfl (show 0 < 1 from by omega) rfl ?_
  refine th_iload_n C dc_O_bound_4 rfl rfl ?_
  obtain ⟨n2, m2⟩ := th_nat (a := t.toInt) (by omega)
  refine tq_ialdN C dc_O_bound_5 rfl (fun _ => rfl) (show 0 < 1 from by omega) rfl m2 (show n2 < 5 from by omega) (fun x1 e1 => ?_)
  have g1 : x1.toInt = (I 28 0 n2).toInt := by rw [e1]
  have r1 : 0 ≤ x1.toInt ∧ x1.toInt ≤ 12 := by rw [e1]; exact hI.1 28 0 n2
  refine th_iconst (v := 1) C dc_O_bound_6 th_c_1 ?_
  refine tq_isub C dc_O_bound_7 rfl th_l_1 (fun x3 e3 a3 => ?_)
  refine th_istore_n (lv' := [(0, .inr (some (20, 0))), (1, .inl t), (2, .inl s), (3, .inl x3)]) C dc_O_bound_8 rfl (by decide) rfl ?_
  have L9 : ∀ (N : Nat) (k : Int32), (-1 ≤ k.toInt ∧ k.toInt ≤ 11) → (k.toInt + 1).toNat < N → th_G l z 4 9 [(0, .inr (some (20, 0))), (1, .inl t), (2, .inl s), (3, .inl k)] [] (th_m I) 0 0 := by
    intro N
    induction N with
    | zero => intro k h1 hm; exact absurd hm (Nat.not_lt_zero _)
    | succ N ih =>
      intro k h1 hm
      refine th_iload_n C dc_O_bound_9 rfl rfl ?_
      refine tq_if_lt (tgt := 41) C dc_O_bound_10 (by decide) rfl (fun c5 => ?_) (fun c5 => ?_)
      · refine th_iconst (v := -1) C dc_O_bound_41 th_c_m1 ?_
        exact th_iret C hQ dc_O_bound_42 (by decide) (by decide) ⟨_, rfl, rfl, (by have := th_l_m1; first | omega | (dsimp only; omega))⟩
      · refine th_aload_n C dc_O_bound_13 rfl rfl ?_
        refine tq_getR C dc_O_bound_14 cl_20 fd_O_25 rfl (show 0 < 1 from by omega) rfl ?_
        refine th_bipush (v := 12) C dc_O_bound_17 th_b_12 ?_
        refine th_iload_n C dc_O_bound_19 rfl rfl ?_
        refine tq_imul C dc_O_bound_20 th_l_12 rfl (fun x6 e6 a6 => ?_)
        refine th_iload_n C dc_O_bound_21 rfl rfl ?_
        refine tq_iadd C dc_O_bound_22 rfl rfl (fun x7 e7 a7 => ?_)
        obtain ⟨n9, m9⟩ := th_nat (a := x7.toInt) (by omega)
        refine tq_ialdN C dc_O_bound_23 rfl (fun _ => rfl) (show 0 < 1 from by omega) rfl m9 (show n9 < 60 from by omega) (fun x8 e8 => ?_)
        have g8 : x8.toInt = (I 26 0 n9).toInt := by rw [e8]
        refine th_iload_n C dc_O_bound_24 rfl rfl ?_
        refine tq_icmp_ne (tgt := 35) C dc_O_bound_25 (by decide) rfl rfl (fun c10 => ?_) (fun c10 => ?_)
        · refine tq_iinc (lv' := fun rr => [(0, .inr (some (20, 0))), (1, .inl t), (2, .inl s), (3, .inl rr)]) C dc_O_bound_35 rfl (by decide) th_c_m1 rfl th_l_m1 (fun rr => rfl) (fun x11 e11 a11 => ?_)
          refine th_goto (tgt := 9) C dc_O_bound_38 (by decide) ?_
          exact ih x11 (by omega) (by omega)
        · refine th_bipush (v := 12) C dc_O_bound_28 th_b_12 ?_
          refine th_iload_n C dc_O_bound_30 rfl rfl ?_
          refine tq_imul C dc_O_bound_31 th_l_12 rfl (fun x12 e12 a12 => ?_)
          refine th_iload_n C dc_O_bound_32 rfl rfl ?_
          refine tq_iadd C dc_O_bound_33 rfl rfl (fun x13 e13 a13 => ?_)
          exact th_iret C hQ dc_O_bound_34 (by decide) (by decide) ⟨_, rfl, rfl, (by first | omega | (dsimp only; omega))⟩
  exact L9 _ x3 (by omega) (Nat.lt_succ_self _)

set_option maxRecDepth 100000 in
set_option maxHeartbeats 4000000 in
theorem o_O_get (l : Launch) (hl : l.stackTraces = false) {K sl : Int} {Z : th_I} (I : th_I) (t : Int32) (s : Int32) (hI : th_OI K sl Z I) (ht : 0 ≤ t.toInt ∧ t.toInt ≤ 4) (hs : 0 ≤ s.toInt ∧ s.toInt ≤ 3) : th_F l yn_O_get cb_O_get 4 (some .int) { frames := 1, cells := 0, slots := 0, locals := 23 } [.inr (some (20, 0)), .inl t, .inl s] (th_m I) (th_rp I (fun x => True)) := by
  refine th_of hl (by decide +kernel) (Nat.le_of_ble_eq_true rfl) (fun z C hQ hN => ?_)
  show th_G l z 4 0 [(0, .inr (some (20, 0))), (1, .inl t), (2, .inl s)] [] (th_m I) 0 0
  have hb := hI.2.2.1
  refine th_aload_n C dc_O_get_0 rfl rfl ?_
  refine th_iload_n C dc_O_get_1 rfl rfl ?_
  refine th_iload_n C dc_O_get_2 rfl rfl ?_
  refine tq_callVp C (o_O_bound l hl I t s hI (by omega)) ok_O_132 cl_20 (show 0 < 1 from by omega) rfl (Nat.le_of_ble_eq_true rfl) dc_O_get_3 rfl (fun x1 p1 => ?_)
  refine th_istore_n (lv' := [(0, .inr (some (20, 0))), (1, .inl t), (2, .inl s), (3, .inl x1)]) C dc_O_get_6 rfl (by decide) rfl ?_
  refine th_iload_n C dc_O_get_7 rfl rfl ?_
  refine tq_if_ge (tgt := 20) C dc_O_get_8 (by decide) rfl (fun c2 => ?_) (fun c2 => ?_)
  · refine th_aload_n C dc_O_get_20 rfl rfl ?_
    refine tq_getR C dc_O_get_21 cl_20 fd_O_28 rfl (show 0 < 1 from by omega) rfl ?_
    refine th_iload_n C dc_O_get_24 rfl rfl ?_
    obtain ⟨n4, m4⟩ := th_nat (a := x1.toInt) (by omega)
    refine tq_ialdN C dc_O_get_25 rfl (fun _ => rfl) (show 0 < 1 from by omega) rfl m4 (show n4 < 60 from by omega) (fun x3 e3 => ?_)
    have g3 : x3.toInt = (I 27 0 n4).toInt := by rw [e3]
    exact th_iret C hQ dc_O_get_26 (by decide) (by decide) ⟨_, rfl, rfl, trivial⟩
  · refine th_aload_n C dc_O_get_11 rfl rfl ?_
    refine tq_getR C dc_O_get_12 cl_20 fd_O_22 rfl (show 0 < 1 from by omega) rfl ?_
    refine th_iload_n C dc_O_get_15 rfl rfl ?_
    obtain ⟨n6, m6⟩ := th_nat (a := s.toInt) (by omega)
    refine tq_ialdN C dc_O_get_16 rfl (fun _ => rfl) (show 0 < 1 from by omega) rfl m6 (show n6 < 4 from by omega) (fun x5 e5 => ?_)
    have g5 : x5.toInt = (I 25 0 n6).toInt := by rw [e5]
    refine th_goto (tgt := 26) C dc_O_get_17 (by decide) ?_
    exact th_iret C hQ dc_O_get_26 (by decide) (by decide) ⟨_, rfl, rfl, trivial⟩

set_option maxRecDepth 100000 in
set_option maxHeartbeats 4000000 in
theorem o_O_put (l : Launch) (hl : l.stackTraces = false) {K sl : Int} {Z : th_I} (I : th_I) (t : Int32) (s : Int32) (v : Int32) (hI : th_OI K sl Z I) (ht : 0 ≤ t.toInt ∧ t.toInt ≤ 4) (hs : 0 ≤ s.toInt ∧ s.toInt ≤ 3) : th_F l yn_O_put cb_O_put 5 none { frames := 1, cells := 0, slots := 0, locals := 23 } [.inr (some (20, 0)), .inl t, .inl s, .inl v] (th_m I) (th_rv (fun J => th_OI K sl Z J ∧ (True))) := by
  refine th_of hl (by decide +kernel) (Nat.le_of_ble_eq_true rfl) (fun z C hQ hN => ?_)
  show th_G l z 5 0 [(0, .inr (some (20, 0))), (1, .inl t), (2, .inl s), (3, .inl v)] [] (th_m I) 0 0
  have hb := hI.2.2.1
  refine th_aload_n C dc_O_put_0 rfl rfl ?_
  refine th_iload_n C dc_O_put_1 rfl rfl ?_
  refine th_iload_n C dc_O_put_2 rfl rfl ?_
  refine tq_callVp C (o_O_bound l hl I t s hI (by omega)) ok_O_132 cl_20 (show 0 < 1 from by omega) rfl (Nat.le_of_ble_eq_true rfl) dc_O_put_3 rfl (fun x1 p1 => ?_)
  refine th_istore (lv' := [(0, .inr (some (20, 0))), (1, .inl t), (2, .inl s), (3, .inl v), (4, .inl x1)]) C dc_O_put_6 (by decide) rfl ?_
  refine th_iload C dc_O_put_8 rfl ?_
  refine tq_if_ge (tgt := 23) C dc_O_put_10 (by decide) rfl (fun c2 => ?_) (fun c2 => ?_)
  · refine th_aload_n C dc_O_put_23 rfl rfl ?_
    refine tq_getR C dc_O_put_24 cl_20 fd_O_28 rfl (show 0 < 1 from by omega) rfl ?_
    refine th_iload C dc_O_put_27 rfl ?_
    refine th_iload_n C dc_O_put_29 rfl rfl ?_
    obtain ⟨n3, m3⟩ := th_nat (a := x1.toInt) (by omega)
    refine tq_iastN C dc_O_put_30 rfl (fun _ => rfl) (show 0 < 1 from by omega) rfl m3 (show n3 < 60 from by omega) ?_
    refine th_gen (P := fun J => th_OI K sl Z J ∧ J = th_u I 27 0 n3 v) ⟨ro_put hI rfl trivial, rfl⟩ (fun I4 hI4 => ?_)
    obtain ⟨hI4, u4⟩ := hI4
    have e4 : v = I4 27 0 n3 := by rw [u4, th_u_eq]
    have g4 : v.toInt = (I4 27 0 n3).toInt := by rw [← e4]
    exact th_vret C hQ dc_O_put_31 (by decide) (by decide) ⟨_, rfl, rfl, hI4, trivial⟩
  · refine th_aload_n C dc_O_put_13 rfl rfl ?_
    refine tq_getR C dc_O_put_14 cl_20 fd_O_22 rfl (show 0 < 1 from by omega) rfl ?_
    refine th_iload_n C dc_O_put_17 rfl rfl ?_
    refine th_iload_n C dc_O_put_18 rfl rfl ?_
    obtain ⟨n5, m5⟩ := th_nat (a := s.toInt) (by omega)
    refine tq_iastN C dc_O_put_19 rfl (fun _ => rfl) (show 0 < 1 from by omega) rfl m5 (show n5 < 4 from by omega) ?_
    refine th_gen (P := fun J => th_OI K sl Z J ∧ J = th_u I 25 0 n5 v) ⟨ro_put hI rfl trivial, rfl⟩ (fun I6 hI6 => ?_)
    obtain ⟨hI6, u6⟩ := hI6
    have e6 : v = I6 25 0 n5 := by rw [u6, th_u_eq]
    have g6 : v.toInt = (I6 25 0 n5).toInt := by rw [← e6]
    refine th_goto (tgt := 31) C dc_O_put_20 (by decide) ?_
    exact th_vret C hQ dc_O_put_31 (by decide) (by decide) ⟨_, rfl, rfl, hI6, trivial⟩
end
section
set_option maxRecDepth 100000 in
set_option maxHeartbeats 4000000 in
theorem o_O_fits (l : Launch) (hl : l.stackTraces = false) (I : th_I) (o : Int32) (a : Int32) (b : Int32) : th_F l yn_O_fits cb_O_fits 3 (some .boolean) { frames := 1, cells := 0, slots := 0, locals := 22 } [.inl o, .inl a, .inl b] (th_m I) (th_rp I (fun x => x.toInt = 1 ∧ th_valid o.toInt a.toInt b.toInt ∨ x.toInt = 0 ∧ ¬ th_valid o.toInt a.toInt b.toInt)) := by
  refine th_of hl (by decide +kernel) (Nat.le_of_ble_eq_true rfl) (fun z C hQ hN => ?_)
  show th_G l z 3 0 [(0, .inl o), (1, .inl a), (2, .inl b)] [] (th_m I) 0 0
  refine th_iload_n C dc_O_fits_0 rfl rfl ?_
  have w1 : o.toInt = 0 ∨ o.toInt = 1 ∨ o.toInt = 2 ∨ o.toInt = 3 ∨ o.toInt = 4 ∨ o.toInt = 5 ∨ o.toInt = 6 ∨ o.toInt = 7 ∨ o.toInt = 8 ∨ o.toInt = 9 ∨ o.toInt = 10 ∨ o.toInt = 11 ∨ o.toInt = 12 ∨ o.toInt = 13 ∨ o.toInt = 14 ∨ o.toInt = 15 ∨ o.toInt = 16 ∨ o.toInt = 17 ∨ o.toInt = 18 ∨ o.toInt = 19 ∨ (o.toInt < 0 ∨ 19 < o.toInt) := by omega
  rcases w1 with w1 | w1 | w1 | w1 | w1 | w1 | w1 | w1 | w1 | w1 | w1 | w1 | w1 | w1 | w1 | w1 | w1 | w1 | w1 | w1 | w1
  · refine th_tableIn (tgt := 96) C dc_O_fits_1 (by omega) (by omega) (by rw [w1]; rfl) (by decide) ?_
    refine th_iload_n C dc_O_fits_96 rfl rfl ?_
    refine th_iconst (v := 0) C dc_O_fits_97 th_c_0 ?_
    refine th_iconst (v := 3) C dc_O_fits_98 th_c_3 ?_
    refine tq_callSp C (o_O_is l hl I a ((0 : Int32)) ((3 : Int32))) ok_O_117 rfl (Nat.le_of_ble_eq_true rfl) dc_O_fits_99 rfl (fun x2 p2 => ?_)
    try simp only [th_l_0, th_l_3] at p2
    exact th_zret C hQ dc_O_fits_102 (th_zn (by omega)) (by decide) (by decide) ⟨_, rfl, rfl, (by (try dsimp only); unfold th_valid; first | omega | (dsimp only; omega))⟩
  · refine th_tableIn (tgt := 96) C dc_O_fits_1 (by omega) (by omega) (by rw [w1]; rfl) (by decide) ?_
    refine th_iload_n C dc_O_fits_96 rfl rfl ?_
    refine th_iconst (v := 0) C dc_O_fits_97 th_c_0 ?_
    refine th_iconst (v := 3) C dc_O_fits_98 th_c_3 ?_
    refine tq_callSp C (o_O_is l hl I a ((0 : Int32)) ((3 : Int32))) ok_O_117 rfl (Nat.le_of_ble_eq_true rfl) dc_O_fits_99 rfl (fun x3 p3 => ?_)
    try simp only [th_l_0, th_l_3] at p3
    exact th_zret C hQ dc_O_fits_102 (th_zn (by omega)) (by decide) (by decide) ⟨_, rfl, rfl, (by (try dsimp only); unfold th_valid; first | omega | (dsimp only; omega))⟩
  · refine th_tableIn (tgt := 103) C dc_O_fits_1 (by omega) (by omega) (by rw [w1]; rfl) (by decide) ?_
    refine th_iload_n C dc_O_fits_103 rfl rfl ?_
    refine th_iconst (v := 0) C dc_O_fits_104 th_c_0 ?_
    refine th_iconst (v := 3) C dc_O_fits_105 th_c_3 ?_
    refine tq_callSp C (o_O_is l hl I a ((0 : Int32)) ((3 : Int32))) ok_O_117 rfl (Nat.le_of_ble_eq_true rfl) dc_O_fits_106 rfl (fun x4 p4 => ?_)
    try simp only [th_l_0, th_l_3] at p4
    refine tq_if_eq (tgt := 125) C dc_O_fits_109 (by decide) rfl (fun c5 => ?_) (fun c5 => ?_)
    · refine th_iconst (v := 0) C dc_O_fits_125 th_c_0 ?_
      exact th_zret C hQ dc_O_fits_126 (rfl) (by decide) (by decide) ⟨_, rfl, rfl, (by have := th_l_0; (try dsimp only); unfold th_valid; first | omega | (dsimp only; omega))⟩
    · refine th_iload_n C dc_O_fits_112 rfl rfl ?_
      refine th_iconst (v := 0) C dc_O_fits_113 th_c_0 ?_
      refine th_iconst (v := 3) C dc_O_fits_114 th_c_3 ?_
      refine tq_callSp C (o_O_is l hl I b ((0 : Int32)) ((3 : Int32))) ok_O_117 rfl (Nat.le_of_ble_eq_true rfl) dc_O_fits_115 rfl (fun x6 p6 => ?_)
      try simp only [th_l_0, th_l_3] at p6
      refine tq_if_eq (tgt := 125) C dc_O_fits_118 (by decide) rfl (fun c7 => ?_) (fun c7 => ?_)
      · refine th_iconst (v := 0) C dc_O_fits_125 th_c_0 ?_
        exact th_zret C hQ dc_O_fits_126 (rfl) (by decide) (by decide) ⟨_, rfl, rfl, (by have := th_l_0; (try dsimp only); unfold th_valid; first | omega | (dsimp only; omega))⟩
      · refine th_iconst (v := 1) C dc_O_fits_121 th_c_1 ?_
        refine th_goto (tgt := 126) C dc_O_fits_122 (by decide) ?_
        exact th_zret C hQ dc_O_fits_126 (rfl) (by decide) (by decide) ⟨_, rfl, rfl, (by have := th_l_1; (try dsimp only); unfold th_valid; first | omega | (dsimp only; omega))⟩
  · refine th_tableIn (tgt := 96) C dc_O_fits_1 (by omega) (by omega) (by rw [w1]; rfl) (by decide) ?_
    refine th_iload_n C dc_O_fits_96 rfl rfl ?_
    refine th_iconst (v := 0) C dc_O_fits_97 th_c_0 ?_
    refine th_iconst (v := 3) C dc_O_fits_98 th_c_3 ?_
    refine tq_callSp C (o_O_is l hl I a ((0 : Int32)) ((3 : Int32))) ok_O_117 rfl (Nat.le_of_ble_eq_true rfl) dc_O_fits_99 rfl (fun x8 p8 => ?_)
    try simp only [th_l_0, th_l_3] at p8
    exact th_zret C hQ dc_O_fits_102 (th_zn (by omega)) (by decide) (by decide) ⟨_, rfl, rfl, (by (try dsimp only); unfold th_valid; first | omega | (dsimp only; omega))⟩
  · refine th_tableIn (tgt := 96) C dc_O_fits_1 (by omega) (by omega) (by rw [w1]; rfl) (by decide) ?_
    refine th_iload_n C dc_O_fits_96 rfl rfl ?_
    refine th_iconst (v := 0) C dc_O_fits_97 th_c_0 ?_
    refine th_iconst (v := 3) C dc_O_fits_98 th_c_3 ?_
    refine tq_callSp C (o_O_is l hl I a ((0 : Int32)) ((3 : Int32))) ok_O_117 rfl (Nat.le_of_ble_eq_true rfl) dc_O_fits_99 rfl (fun x9 p9 => ?_)
    try simp only [th_l_0, th_l_3] at p9
    exact th_zret C hQ dc_O_fits_102 (th_zn (by omega)) (by decide) (by decide) ⟨_, rfl, rfl, (by (try dsimp only); unfold th_valid; first | omega | (dsimp only; omega))⟩
  · refine th_tableIn (tgt := 127) C dc_O_fits_1 (by omega) (by omega) (by rw [w1]; rfl) (by decide) ?_
    refine th_iload_n C dc_O_fits_127 rfl rfl ?_
    refine th_iconst (v := 0) C dc_O_fits_128 th_c_0 ?_
    refine th_iconst (v := 2) C dc_O_fits_129 th_c_2 ?_
    refine tq_callSp C (o_O_is l hl I a ((0 : Int32)) ((2 : Int32))) ok_O_117 rfl (Nat.le_of_ble_eq_true rfl) dc_O_fits_130 rfl (fun x10 p10 => ?_)
    try simp only [th_l_0, th_l_2] at p10
    exact th_zret C hQ dc_O_fits_133 (th_zn (by omega)) (by decide) (by decide) ⟨_, rfl, rfl, (by (try dsimp only); unfold th_valid; first | omega | (dsimp only; omega))⟩
  · refine th_tableIn (tgt := 127) C dc_O_fits_1 (by omega) (by omega) (by rw [w1]; rfl) (by decide) ?_
    refine th_iload_n C dc_O_fits_127 rfl rfl ?_
    refine th_iconst (v := 0) C dc_O_fits_128 th_c_0 ?_
    refine th_iconst (v := 2) C dc_O_fits_129 th_c_2 ?_
    refine tq_callSp C (o_O_is l hl I a ((0 : Int32)) ((2 : Int32))) ok_O_117 rfl (Nat.le_of_ble_eq_true rfl) dc_O_fits_130 rfl (fun x11 p11 => ?_)
    try simp only [th_l_0, th_l_2] at p11
    exact th_zret C hQ dc_O_fits_133 (th_zn (by omega)) (by decide) (by decide) ⟨_, rfl, rfl, (by (try dsimp only); unfold th_valid; first | omega | (dsimp only; omega))⟩
  · refine th_tableIn (tgt := 134) C dc_O_fits_1 (by omega) (by omega) (by rw [w1]; rfl) (by decide) ?_
    refine th_iload_n C dc_O_fits_134 rfl rfl ?_
    refine th_iconst (v := 0) C dc_O_fits_135 th_c_0 ?_
    refine th_iconst (v := 2) C dc_O_fits_136 th_c_2 ?_
    refine tq_callSp C (o_O_is l hl I a ((0 : Int32)) ((2 : Int32))) ok_O_117 rfl (Nat.le_of_ble_eq_true rfl) dc_O_fits_137 rfl (fun x12 p12 => ?_)
    try simp only [th_l_0, th_l_2] at p12
    refine tq_if_eq (tgt := 156) C dc_O_fits_140 (by decide) rfl (fun c13 => ?_) (fun c13 => ?_)
    · refine th_iconst (v := 0) C dc_O_fits_156 th_c_0 ?_
      exact th_zret C hQ dc_O_fits_157 (rfl) (by decide) (by decide) ⟨_, rfl, rfl, (by have := th_l_0; (try dsimp only); unfold th_valid; first | omega | (dsimp only; omega))⟩
    · refine th_iload_n C dc_O_fits_143 rfl rfl ?_
      refine th_iconst (v := 0) C dc_O_fits_144 th_c_0 ?_
      refine th_iconst (v := 3) C dc_O_fits_145 th_c_3 ?_
      refine tq_callSp C (o_O_is l hl I b ((0 : Int32)) ((3 : Int32))) ok_O_117 rfl (Nat.le_of_ble_eq_true rfl) dc_O_fits_146 rfl (fun x14 p14 => ?_)
      try simp only [th_l_0, th_l_3] at p14
      refine tq_if_eq (tgt := 156) C dc_O_fits_149 (by decide) rfl (fun c15 => ?_) (fun c15 => ?_)
      · refine th_iconst (v := 0) C dc_O_fits_156 th_c_0 ?_
        exact th_zret C hQ dc_O_fits_157 (rfl) (by decide) (by decide) ⟨_, rfl, rfl, (by have := th_l_0; (try dsimp only); unfold th_valid; first | omega | (dsimp only; omega))⟩
      · refine th_iconst (v := 1) C dc_O_fits_152 th_c_1 ?_
        refine th_goto (tgt := 157) C dc_O_fits_153 (by decide) ?_
        exact th_zret C hQ dc_O_fits_157 (rfl) (by decide) (by decide) ⟨_, rfl, rfl, (by have := th_l_1; (try dsimp only); unfold th_valid; first | omega | (dsimp only; omega))⟩
  · refine th_tableIn (tgt := 158) C dc_O_fits_1 (by omega) (by omega) (by rw [w1]; rfl) (by decide) ?_
    refine th_iload_n C dc_O_fits_158 rfl rfl ?_
    refine th_iconst (v := 0) C dc_O_fits_159 th_c_0 ?_
    refine th_iconst (v := 2) C dc_O_fits_160 th_c_2 ?_
    refine tq_callSp C (o_O_is l hl I a ((0 : Int32)) ((2 : Int32))) ok_O_117 rfl (Nat.le_of_ble_eq_true rfl) dc_O_fits_161 rfl (fun x16 p16 => ?_)
    try simp only [th_l_0, th_l_2] at p16
    refine tq_if_eq (tgt := 180) C dc_O_fits_164 (by decide) rfl (fun c17 => ?_) (fun c17 => ?_)
    · refine th_iconst (v := 0) C dc_O_fits_180 th_c_0 ?_
      exact th_zret C hQ dc_O_fits_181 (rfl) (by decide) (by decide) ⟨_, rfl, rfl, (by have := th_l_0; (try dsimp only); unfold th_valid; first | omega | (dsimp only; omega))⟩
    · refine th_iload_n C dc_O_fits_167 rfl rfl ?_
      refine th_iconst (v := 0) C dc_O_fits_168 th_c_0 ?_
      refine th_iconst (v := 2) C dc_O_fits_169 th_c_2 ?_
      refine tq_callSp C (o_O_is l hl I b ((0 : Int32)) ((2 : Int32))) ok_O_117 rfl (Nat.le_of_ble_eq_true rfl) dc_O_fits_170 rfl (fun x18 p18 => ?_)
      try simp only [th_l_0, th_l_2] at p18
      refine tq_if_eq (tgt := 180) C dc_O_fits_173 (by decide) rfl (fun c19 => ?_) (fun c19 => ?_)
      · refine th_iconst (v := 0) C dc_O_fits_180 th_c_0 ?_
        exact th_zret C hQ dc_O_fits_181 (rfl) (by decide) (by decide) ⟨_, rfl, rfl, (by have := th_l_0; (try dsimp only); unfold th_valid; first | omega | (dsimp only; omega))⟩
      · refine th_iconst (v := 1) C dc_O_fits_176 th_c_1 ?_
        refine th_goto (tgt := 181) C dc_O_fits_177 (by decide) ?_
        exact th_zret C hQ dc_O_fits_181 (rfl) (by decide) (by decide) ⟨_, rfl, rfl, (by have := th_l_1; (try dsimp only); unfold th_valid; first | omega | (dsimp only; omega))⟩
  · refine th_tableIn (tgt := 127) C dc_O_fits_1 (by omega) (by omega) (by rw [w1]; rfl) (by decide) ?_
    refine th_iload_n C dc_O_fits_127 rfl rfl ?_
    refine th_iconst (v := 0) C dc_O_fits_128 th_c_0 ?_
    refine th_iconst (v := 2) C dc_O_fits_129 th_c_2 ?_
    refine tq_callSp C (o_O_is l hl I a ((0 : Int32)) ((2 : Int32))) ok_O_117 rfl (Nat.le_of_ble_eq_true rfl) dc_O_fits_130 rfl (fun x20 p20 => ?_)
    try simp only [th_l_0, th_l_2] at p20
    exact th_zret C hQ dc_O_fits_133 (th_zn (by omega)) (by decide) (by decide) ⟨_, rfl, rfl, (by (try dsimp only); unfold th_valid; first | omega | (dsimp only; omega))⟩
  · refine th_tableIn (tgt := 127) C dc_O_fits_1 (by omega) (by omega) (by rw [w1]; rfl) (by decide) ?_
    refine th_iload_n C dc_O_fits_127 rfl rfl ?_
    refine th_iconst (v := 0) C dc_O_fits_128 th_c_0 ?_
    refine th_iconst (v := 2) C dc_O_fits_129 th_c_2 ?_
    refine tq_callSp C (o_O_is l hl I a ((0 : Int32)) ((2 : Int32))) ok_O_117 rfl (Nat.le_of_ble_eq_true rfl) dc_O_fits_130 rfl (fun x21 p21 => ?_)
    try simp only [th_l_0, th_l_2] at p21
    exact th_zret C hQ dc_O_fits_133 (th_zn (by omega)) (by decide) (by decide) ⟨_, rfl, rfl, (by (try dsimp only); unfold th_valid; first | omega | (dsimp only; omega))⟩
  · refine th_tableIn (tgt := 182) C dc_O_fits_1 (by omega) (by omega) (by rw [w1]; rfl) (by decide) ?_
    refine th_iload_n C dc_O_fits_182 rfl rfl ?_
    refine th_iconst (v := 0) C dc_O_fits_183 th_c_0 ?_
    refine th_iconst (v := 4) C dc_O_fits_184 th_c_4 ?_
    refine tq_callSp C (o_O_is l hl I a ((0 : Int32)) ((4 : Int32))) ok_O_117 rfl (Nat.le_of_ble_eq_true rfl) dc_O_fits_185 rfl (fun x22 p22 => ?_)
    try simp only [th_l_0, th_l_4] at p22
    exact th_zret C hQ dc_O_fits_188 (th_zn (by omega)) (by decide) (by decide) ⟨_, rfl, rfl, (by (try dsimp only); unfold th_valid; first | omega | (dsimp only; omega))⟩
  · refine th_tableIn (tgt := 189) C dc_O_fits_1 (by omega) (by omega) (by rw [w1]; rfl) (by decide) ?_
    refine th_iload_n C dc_O_fits_189 rfl rfl ?_
    refine th_iconst (v := 0) C dc_O_fits_190 th_c_0 ?_
    refine th_iconst (v := 4) C dc_O_fits_191 th_c_4 ?_
    refine tq_callSp C (o_O_is l hl I a ((0 : Int32)) ((4 : Int32))) ok_O_117 rfl (Nat.le_of_ble_eq_true rfl) dc_O_fits_192 rfl (fun x23 p23 => ?_)
    try simp only [th_l_0, th_l_4] at p23
    refine tq_if_eq (tgt := 211) C dc_O_fits_195 (by decide) rfl (fun c24 => ?_) (fun c24 => ?_)
    · refine th_iconst (v := 0) C dc_O_fits_211 th_c_0 ?_
      exact th_zret C hQ dc_O_fits_212 (rfl) (by decide) (by decide) ⟨_, rfl, rfl, (by have := th_l_0; (try dsimp only); unfold th_valid; first | omega | (dsimp only; omega))⟩
    · refine th_iload_n C dc_O_fits_198 rfl rfl ?_
      refine th_iconst (v := 0) C dc_O_fits_199 th_c_0 ?_
      refine th_iconst (v := 3) C dc_O_fits_200 th_c_3 ?_
      refine tq_callSp C (o_O_is l hl I b ((0 : Int32)) ((3 : Int32))) ok_O_117 rfl (Nat.le_of_ble_eq_true rfl) dc_O_fits_201 rfl (fun x25 p25 => ?_)
      try simp only [th_l_0, th_l_3] at p25
      refine tq_if_eq (tgt := 211) C dc_O_fits_204 (by decide) rfl (fun c26 => ?_) (fun c26 => ?_)
      · refine th_iconst (v := 0) C dc_O_fits_211 th_c_0 ?_
        exact th_zret C hQ dc_O_fits_212 (rfl) (by decide) (by decide) ⟨_, rfl, rfl, (by have := th_l_0; (try dsimp only); unfold th_valid; first | omega | (dsimp only; omega))⟩
      · refine th_iconst (v := 1) C dc_O_fits_207 th_c_1 ?_
        refine th_goto (tgt := 212) C dc_O_fits_208 (by decide) ?_
        exact th_zret C hQ dc_O_fits_212 (rfl) (by decide) (by decide) ⟨_, rfl, rfl, (by have := th_l_1; (try dsimp only); unfold th_valid; first | omega | (dsimp only; omega))⟩
  · refine th_tableIn (tgt := 182) C dc_O_fits_1 (by omega) (by omega) (by rw [w1]; rfl) (by decide) ?_
    refine th_iload_n C dc_O_fits_182 rfl rfl ?_
    refine th_iconst (v := 0) C dc_O_fits_183 th_c_0 ?_
    refine th_iconst (v := 4) C dc_O_fits_184 th_c_4 ?_
    refine tq_callSp C (o_O_is l hl I a ((0 : Int32)) ((4 : Int32))) ok_O_117 rfl (Nat.le_of_ble_eq_true rfl) dc_O_fits_185 rfl (fun x27 p27 => ?_)
    try simp only [th_l_0, th_l_4] at p27
    exact th_zret C hQ dc_O_fits_188 (th_zn (by omega)) (by decide) (by decide) ⟨_, rfl, rfl, (by (try dsimp only); unfold th_valid; first | omega | (dsimp only; omega))⟩
  · refine th_tableIn (tgt := 213) C dc_O_fits_1 (by omega) (by omega) (by rw [w1]; rfl) (by decide) ?_
    refine th_iload_n C dc_O_fits_213 rfl rfl ?_
    refine th_iconst (v := 0) C dc_O_fits_214 th_c_0 ?_
    refine th_bipush (v := 24) C dc_O_fits_215 th_b_24 ?_
    refine tq_callSp C (o_O_is l hl I a ((0 : Int32)) ((24 : Int32))) ok_O_117 rfl (Nat.le_of_ble_eq_true rfl) dc_O_fits_217 rfl (fun x28 p28 => ?_)
    try simp only [th_l_0, th_l_24] at p28
    exact th_zret C hQ dc_O_fits_220 (th_zn (by omega)) (by decide) (by decide) ⟨_, rfl, rfl, (by (try dsimp only); unfold th_valid; first | omega | (dsimp only; omega))⟩
  · refine th_tableIn (tgt := 96) C dc_O_fits_1 (by omega) (by omega) (by rw [w1]; rfl) (by decide) ?_
    refine th_iload_n C dc_O_fits_96 rfl rfl ?_
    refine th_iconst (v := 0) C dc_O_fits_97 th_c_0 ?_
    refine th_iconst (v := 3) C dc_O_fits_98 th_c_3 ?_
    refine tq_callSp C (o_O_is l hl I a ((0 : Int32)) ((3 : Int32))) ok_O_117 rfl (Nat.le_of_ble_eq_true rfl) dc_O_fits_99 rfl (fun x29 p29 => ?_)
    try simp only [th_l_0, th_l_3] at p29
    exact th_zret C hQ dc_O_fits_102 (th_zn (by omega)) (by decide) (by decide) ⟨_, rfl, rfl, (by (try dsimp only); unfold th_valid; first | omega | (dsimp only; omega))⟩
  · refine th_tableIn (tgt := 213) C dc_O_fits_1 (by omega) (by omega) (by rw [w1]; rfl) (by decide) ?_
    refine th_iload_n C dc_O_fits_213 rfl rfl ?_
    refine th_iconst (v := 0) C dc_O_fits_214 th_c_0 ?_
    refine th_bipush (v := 24) C dc_O_fits_215 th_b_24 ?_
    refine tq_callSp C (o_O_is l hl I a ((0 : Int32)) ((24 : Int32))) ok_O_117 rfl (Nat.le_of_ble_eq_true rfl) dc_O_fits_217 rfl (fun x30 p30 => ?_)
    try simp only [th_l_0, th_l_24] at p30
    exact th_zret C hQ dc_O_fits_220 (th_zn (by omega)) (by decide) (by decide) ⟨_, rfl, rfl, (by (try dsimp only); unfold th_valid; first | omega | (dsimp only; omega))⟩
  · refine th_tableIn (tgt := 221) C dc_O_fits_1 (by omega) (by omega) (by rw [w1]; rfl) (by decide) ?_
    refine th_iload_n C dc_O_fits_221 rfl rfl ?_
    refine th_iconst (v := 0) C dc_O_fits_222 th_c_0 ?_
    refine th_iconst (v := 3) C dc_O_fits_223 th_c_3 ?_
    refine tq_callSp C (o_O_is l hl I a ((0 : Int32)) ((3 : Int32))) ok_O_117 rfl (Nat.le_of_ble_eq_true rfl) dc_O_fits_224 rfl (fun x31 p31 => ?_)
    try simp only [th_l_0, th_l_3] at p31
    refine tq_if_eq (tgt := 244) C dc_O_fits_227 (by decide) rfl (fun c32 => ?_) (fun c32 => ?_)
    · refine th_iconst (v := 0) C dc_O_fits_244 th_c_0 ?_
      exact th_zret C hQ dc_O_fits_245 (rfl) (by decide) (by decide) ⟨_, rfl, rfl, (by have := th_l_0; (try dsimp only); unfold th_valid; first | omega | (dsimp only; omega))⟩
    · refine th_iload_n C dc_O_fits_230 rfl rfl ?_
      refine th_iconst (v := 0) C dc_O_fits_231 th_c_0 ?_
      refine th_bipush (v := 24) C dc_O_fits_232 th_b_24 ?_
      refine tq_callSp C (o_O_is l hl I b ((0 : Int32)) ((24 : Int32))) ok_O_117 rfl (Nat.le_of_ble_eq_true rfl) dc_O_fits_234 rfl (fun x33 p33 => ?_)
      try simp only [th_l_0, th_l_24] at p33
      refine tq_if_eq (tgt := 244) C dc_O_fits_237 (by decide) rfl (fun c34 => ?_) (fun c34 => ?_)
      · refine th_iconst (v := 0) C dc_O_fits_244 th_c_0 ?_
        exact th_zret C hQ dc_O_fits_245 (rfl) (by decide) (by decide) ⟨_, rfl, rfl, (by have := th_l_0; (try dsimp only); unfold th_valid; first | omega | (dsimp only; omega))⟩
      · refine th_iconst (v := 1) C dc_O_fits_240 th_c_1 ?_
        refine th_goto (tgt := 245) C dc_O_fits_241 (by decide) ?_
        exact th_zret C hQ dc_O_fits_245 (rfl) (by decide) (by decide) ⟨_, rfl, rfl, (by have := th_l_1; (try dsimp only); unfold th_valid; first | omega | (dsimp only; omega))⟩
  · refine th_tableIn (tgt := 96) C dc_O_fits_1 (by omega) (by omega) (by rw [w1]; rfl) (by decide) ?_
    refine th_iload_n C dc_O_fits_96 rfl rfl ?_
    refine th_iconst (v := 0) C dc_O_fits_97 th_c_0 ?_
    refine th_iconst (v := 3) C dc_O_fits_98 th_c_3 ?_
    refine tq_callSp C (o_O_is l hl I a ((0 : Int32)) ((3 : Int32))) ok_O_117 rfl (Nat.le_of_ble_eq_true rfl) dc_O_fits_99 rfl (fun x35 p35 => ?_)
    try simp only [th_l_0, th_l_3] at p35
    exact th_zret C hQ dc_O_fits_102 (th_zn (by omega)) (by decide) (by decide) ⟨_, rfl, rfl, (by (try dsimp only); unfold th_valid; first | omega | (dsimp only; omega))⟩
  · refine th_tableIn (tgt := 96) C dc_O_fits_1 (by omega) (by omega) (by rw [w1]; rfl) (by decide) ?_
    refine th_iload_n C dc_O_fits_96 rfl rfl ?_
    refine th_iconst (v := 0) C dc_O_fits_97 th_c_0 ?_
    refine th_iconst (v := 3) C dc_O_fits_98 th_c_3 ?_
    refine tq_callSp C (o_O_is l hl I a ((0 : Int32)) ((3 : Int32))) ok_O_117 rfl (Nat.le_of_ble_eq_true rfl) dc_O_fits_99 rfl (fun x36 p36 => ?_)
    try simp only [th_l_0, th_l_3] at p36
    exact th_zret C hQ dc_O_fits_102 (th_zn (by omega)) (by decide) (by decide) ⟨_, rfl, rfl, (by (try dsimp only); unfold th_valid; first | omega | (dsimp only; omega))⟩
  · refine th_tableOut (tgt := 246) C dc_O_fits_1 w1 (by decide) ?_
    refine th_iload_n C dc_O_fits_246 rfl rfl ?_
    refine th_bipush (v := 20) C dc_O_fits_247 th_b_20 ?_
    refine tq_icmp_ne (tgt := 256) C dc_O_fits_249 (by decide) rfl th_l_20 (fun c37 => ?_) (fun c37 => ?_)
    · refine th_iconst (v := 0) C dc_O_fits_256 th_c_0 ?_
      exact th_zret C hQ dc_O_fits_257 (rfl) (by decide) (by decide) ⟨_, rfl, rfl, (by have := th_l_0; (try dsimp only); unfold th_valid; first | omega | (dsimp only; omega))⟩
    · refine th_iconst (v := 1) C dc_O_fits_252 th_c_1 ?_
      refine th_goto (tgt := 257) C dc_O_fits_253 (by decide) ?_
      exact th_zret C hQ dc_O_fits_257 (rfl) (by decide) (by decide) ⟨_, rfl, rfl, (by have := th_l_1; (try dsimp only); unfold th_valid; first | omega | (dsimp only; omega))⟩
end
section
def ro_no (I : th_I) (rt mt w t : Nat) : Prop := ∀ r : Nat, r < w → ∀ k : Nat, k < 5 → (k : Int) < (I mt 0 r).toInt → (I rt 0 (5 * r + k)).toInt ≠ (t : Int)
theorem ro_no_of {I : th_I} {rt mt kt w t : Nat} {S : Int} (h : ro_R I rt mt kt S w) (hs : (I 32 0 t).toInt ≠ S) : ro_no I rt mt w t := by
  intro r hr k hk hm e
  exact hs (h.1 r hr k hk hm t e).1
theorem ro_no_key {I : th_I} {rt mt kt w t : Nat} {S : Int} (h : ro_R I rt mt kt S w) {r : Nat} (hr : r < w) (hs : (I kt 0 t).toInt ≠ (r : Int)) : ∀ k : Nat, k < 5 → (k : Int) < (I mt 0 r).toInt → (I rt 0 (5 * r + k)).toInt ≠ (t : Int) := by
  intro k hk hm e
  exact hs (h.1 r hr k hk hm t e).2
theorem ro_R_upd {I J : th_I} {rt mt kt w t : Nat} {S : Int} (h : ro_R I rt mt kt S w) (hn : ro_no I rt mt w t) (h1 : ∀ k, J rt 0 k = I rt 0 k) (h2 : ∀ k, J mt 0 k = I mt 0 k) (h3 : ∀ e, e ≠ t → J 32 0 e = I 32 0 e) (h4 : ∀ e, e ≠ t → J kt 0 e = I kt 0 e) : ro_R J rt mt kt S w := by
  refine ⟨fun r hr k hk hm e he => ?_, fun r hr k1 k2 q1 q2 hm => ?_⟩
  · rw [h2] at hm
    rw [h1] at he
    have hne : e ≠ t := by
      rintro rfl
      exact hn r hr k hk hm he
    rw [h3 e hne, h4 e hne]
    exact h.1 r hr k hk hm e he
  · rw [h2] at hm
    rw [h1, h1]
    exact h.2 r hr k1 k2 q1 q2 hm
theorem ro_no_upd {I J : th_I} {rt mt w t : Nat} (h : ro_no I rt mt w t) (h1 : ∀ k, J rt 0 k = I rt 0 k) (h2 : ∀ k, J mt 0 k = I mt 0 k) : ro_no J rt mt w t := by
  intro r hr k hk hm
  rw [h2] at hm
  rw [h1]
  exact h r hr k hk hm
theorem ro_fiveB : ∀ a b c d e t : Fin 5, (!(a == b) && !(a == c) && !(a == d) && !(a == e) && !(b == c) && !(b == d) && !(b == e) && !(c == d) && !(c == e) && !(d == e) && !(a == t) && !(b == t) && !(c == t) && !(d == t) && !(e == t)) = false := by decide +kernel
theorem ro_five (a b c d e t : Fin 5) (hab : a ≠ b) (hac : a ≠ c) (had : a ≠ d) (hae : a ≠ e) (hbc : b ≠ c) (hbd : b ≠ d) (hbe : b ≠ e) (hcd : c ≠ d) (hce : c ≠ e) (hde : d ≠ e) (hat : a ≠ t) (hbt : b ≠ t) (hct : c ≠ t) (hdt : d ≠ t) (het : e ≠ t) : False := by
  have h := ro_fiveB a b c d e t
  simp_all
theorem ro_full {I : th_I} {rt mt kt w t r : Nat} {S : Int} (h : ro_R I rt mt kt S w) (hn : ro_no I rt mt w t) (ht : t < 5) (hr : r < w) (hv : ∀ k, 0 ≤ (I rt 0 k).toInt ∧ (I rt 0 k).toInt ≤ 4) (hm : (I mt 0 r).toInt ≤ 5) : (I mt 0 r).toInt ≤ 4 := by
  by_cases q : (I mt 0 r).toInt ≤ 4
  · exact q
  · exfalso
    have h5 : (I mt 0 r).toInt = 5 := by omega
    have g : ∀ k : Nat, k < 5 → ∃ e : Fin 5, (I rt 0 (5 * r + k)).toInt = ((e : Nat) : Int) := by
      intro k hk
      have := hv (5 * r + k)
      exact ⟨⟨(I rt 0 (5 * r + k)).toInt.toNat, by omega⟩, by show _ = (((I rt 0 (5 * r + k)).toInt.toNat : Nat) : Int); omega⟩
    obtain ⟨e0, f0⟩ := g 0 (by omega)
    obtain ⟨e1, f1⟩ := g 1 (by omega)
    obtain ⟨e2, f2⟩ := g 2 (by omega)
    obtain ⟨e3, f3⟩ := g 3 (by omega)
    obtain ⟨e4, f4⟩ := g 4 (by omega)
    have dd : ∀ (k1 k2 : Nat) (a b : Fin 5), k1 < k2 → k2 < 5 → (I rt 0 (5 * r + k1)).toInt = ((a : Nat) : Int) → (I rt 0 (5 * r + k2)).toInt = ((b : Nat) : Int) → a ≠ b := by
      intro k1 k2 a b q1 q2 fa fb e
      subst e
      exact h.2 r hr k1 k2 q1 q2 (by rw [h5]; omega) (fa.trans fb.symm)
    have nn : ∀ (k : Nat) (a : Fin 5), k < 5 → (I rt 0 (5 * r + k)).toInt = ((a : Nat) : Int) → a ≠ (⟨t, ht⟩ : Fin 5) := by
      intro k a hk fa e
      subst e
      exact hn r hr k hk (by rw [h5]; omega) fa
    exact ro_five e0 e1 e2 e3 e4 ⟨t, ht⟩ (dd 0 1 _ _ (by omega) (by omega) f0 f1) (dd 0 2 _ _ (by omega) (by omega) f0 f2) (dd 0 3 _ _ (by omega) (by omega) f0 f3) (dd 0 4 _ _ (by omega) (by omega) f0 f4) (dd 1 2 _ _ (by omega) (by omega) f1 f2) (dd 1 3 _ _ (by omega) (by omega) f1 f3) (dd 1 4 _ _ (by omega) (by omega) f1 f4) (dd 2 3 _ _ (by omega) (by omega) f2 f3) (dd 2 4 _ _ (by omega) (by omega) f2 f4) (dd 3 4 _ _ (by omega) (by omega) f3 f4) (nn 0 _ (by omega) f0) (nn 1 _ (by omega) f1) (nn 2 _ (by omega) f2) (nn 3 _ (by omega) f3) (nn 4 _ (by omega) f4)
theorem ro_R_app {I J : th_I} {rt mt kt w t r n : Nat} {S : Int} (h : ro_R I rt mt kt S w) (hn : ro_no I rt mt w t) (hr : r < w) (hm : (I mt 0 r).toInt = (n : Int)) (h1 : (J rt 0 (5 * r + n)).toInt = (t : Int)) (h2 : ∀ k, k ≠ 5 * r + n → J rt 0 k = I rt 0 k) (h3 : (J mt 0 r).toInt = (n : Int) + 1) (h4 : ∀ q, q ≠ r → J mt 0 q = I mt 0 q) (hn5 : n < 5)
    (h5 : (J 32 0 t).toInt = S) (h6 : (J kt 0 t).toInt = (r : Int)) (h7 : ∀ e, e ≠ t → J 32 0 e = I 32 0 e) (h8 : ∀ e, e ≠ t → J kt 0 e = I kt 0 e) : ro_R J rt mt kt S w := by
  have old : ∀ r' k : Nat, r' < w → k < 5 → (k : Int) < (J mt 0 r').toInt → ¬ (r' = r ∧ k = n) → (k : Int) < (I mt 0 r').toInt ∧ J rt 0 (5 * r' + k) = I rt 0 (5 * r' + k) := by
    intro r' k _ hk hq hne
    by_cases e : r' = r
    · subst e
      have hkn : k ≠ n := fun q => hne ⟨rfl, q⟩
      rw [h3] at hq
      exact ⟨by rw [hm]; omega, h2 _ (by omega)⟩
    · rw [h4 r' e] at hq
      exact ⟨hq, h2 _ (by omega)⟩
  refine ⟨fun r' hr' k hk hq e he => ?_, fun r' hr' k1 k2 q1 q2 hq => ?_⟩
  · by_cases c : r' = r ∧ k = n
    · obtain ⟨rfl, rfl⟩ := c
      have : e = t := by omega
      subst this
      exact ⟨h5, h6⟩
    · obtain ⟨a1, a2⟩ := old r' k hr' hk hq c
      rw [a2] at he
      have hne : e ≠ t := by
        rintro rfl
        exact hn r' hr' k hk a1 he
      rw [h7 e hne, h8 e hne]
      exact h.1 r' hr' k hk a1 e he
  · have c1 : ¬ (r' = r ∧ k1 = n) := by
      rintro ⟨rfl, rfl⟩
      rw [h3] at hq
      omega
    obtain ⟨b1, b2⟩ := old r' k1 hr' (by omega) (by omega) c1
    by_cases c : r' = r ∧ k2 = n
    · obtain ⟨rfl, rfl⟩ := c
      rw [b2, h1]
      exact hn r' hr' k1 (by omega) b1
    · obtain ⟨a1, a2⟩ := old r' k2 hr' q2 hq c
      rw [a2, b2]
      exact h.2 r' hr' k1 k2 q1 q2 a1
theorem ro_R_pop {I J : th_I} {rt mt kt w t r n : Nat} {S : Int} (h : ro_R I rt mt kt S w) (hr : r < w) (hm : (I mt 0 r).toInt = (n : Int) + 1) (hn5 : n < 5) (ht : (I rt 0 (5 * r)).toInt = (t : Int)) (h1 : ∀ k, k < n → J rt 0 (5 * r + k) = I rt 0 (5 * r + k + 1)) (h2 : ∀ q k, q ≠ r → k < 5 → J rt 0 (5 * q + k) = I rt 0 (5 * q + k)) (h3 : (J mt 0 r).toInt = (n : Int)) (h4 : ∀ q, q ≠ r → J mt 0 q = I mt 0 q)
    (h7 : ∀ e, e ≠ t → J 32 0 e = I 32 0 e) (h8 : ∀ e, e ≠ t → J kt 0 e = I kt 0 e) : ro_R J rt mt kt S w ∧ ro_no J rt mt w t := by
  have key := h.1 r hr 0 (by omega) (by rw [hm]; omega) t (by rw [Nat.add_zero]; exact ht)
  have hno : ro_no J rt mt w t := by
    intro r' hr' k hk hq e
    by_cases c : r' = r
    · subst c
      rw [h3] at hq
      rw [h1 k (by omega)] at e
      exact h.2 r' hr' 0 (k + 1) (by omega) (by omega) (by rw [hm]; omega) (by rw [Nat.add_zero, ht]; exact e.symm)
    · rw [h4 r' c] at hq
      rw [h2 r' k c hk] at e
      have := (h.1 r' hr' k hk hq t e).2
      rw [key.2] at this
      omega
  refine ⟨⟨fun r' hr' k hk hq e he => ?_, fun r' hr' k1 k2 q1 q2 hq => ?_⟩, hno⟩
  · have hne : e ≠ t := by
      rintro rfl
      exact hno r' hr' k hk hq he
    rw [h7 e hne, h8 e hne]
    by_cases c : r' = r
    · subst c
      rw [h3] at hq
      rw [h1 k (by omega)] at he
      exact h.1 r' hr' (k + 1) (by omega) (by rw [hm]; omega) e he
    · rw [h4 r' c] at hq
      rw [h2 r' k c hk] at he
      exact h.1 r' hr' k hk hq e he
  · by_cases c : r' = r
    · subst c
      rw [h3] at hq
      rw [h1 k1 (by omega), h1 k2 (by omega)]
      exact h.2 r' hr' (k1 + 1) (k2 + 1) (by omega) (by omega) (by rw [hm]; omega)
    · rw [h4 r' c] at hq
      rw [h2 r' k1 c (by omega), h2 r' k2 c q2]
      exact h.2 r' hr' k1 k2 q1 q2 hq
theorem ro_R_cut {I J : th_I} {rt mt kt w t r n : Nat} {S : Int} (h : ro_R I rt mt kt S w) (hr : r < w) (htr : (I kt 0 t).toInt = (r : Int)) (hn5 : n ≤ 5) (h0 : ∀ k, k < n → ∃ k' : Nat, k' < 5 ∧ (k' : Int) < (I mt 0 r).toInt ∧ J rt 0 (5 * r + k) = I rt 0 (5 * r + k')) (hd : ∀ k1 k2, k1 < k2 → k2 < n → (J rt 0 (5 * r + k1)).toInt ≠ (J rt 0 (5 * r + k2)).toInt) (hne : ∀ k, k < n → (J rt 0 (5 * r + k)).toInt ≠ (t : Int))
    (h2 : ∀ q k, q ≠ r → k < 5 → J rt 0 (5 * q + k) = I rt 0 (5 * q + k)) (h3 : (J mt 0 r).toInt = (n : Int)) (h4 : ∀ q, q ≠ r → J mt 0 q = I mt 0 q) (h7 : ∀ e, e ≠ t → J 32 0 e = I 32 0 e) (h8 : ∀ e, e ≠ t → J kt 0 e = I kt 0 e) : ro_R J rt mt kt S w ∧ ro_no J rt mt w t := by
  have hno : ro_no J rt mt w t := by
    intro r' hr' k hk hq e
    by_cases c : r' = r
    · subst c
      rw [h3] at hq
      exact hne k (by omega) e
    · rw [h4 r' c] at hq
      rw [h2 r' k c hk] at e
      have := (h.1 r' hr' k hk hq t e).2
      rw [htr] at this
      omega
  refine ⟨⟨fun r' hr' k hk hq e he => ?_, fun r' hr' k1 k2 q1 q2 hq => ?_⟩, hno⟩
  · have hnt : e ≠ t := by
      rintro rfl
      exact hno r' hr' k hk hq he
    rw [h7 e hnt, h8 e hnt]
    by_cases c : r' = r
    · subst c
      rw [h3] at hq
      obtain ⟨k', g1, g2, g3⟩ := h0 k (by omega)
      rw [g3] at he
      exact h.1 r' hr' k' g1 g2 e he
    · rw [h4 r' c] at hq
      rw [h2 r' k c hk] at he
      exact h.1 r' hr' k hk hq e he
  · by_cases c : r' = r
    · subst c
      rw [h3] at hq
      exact hd k1 k2 q1 (by omega)
    · rw [h4 r' c] at hq
      rw [h2 r' k1 c (by omega), h2 r' k2 c q2]
      exact h.2 r' hr' k1 k2 q1 q2 hq
end
section
theorem ro_state {K sl : Int} {Z I : th_I} {tn : Nat} {v : Int32} (hI : th_OI K sl Z I) (h2 : ro_no I 46 47 3 tn) (h3 : ro_no I 48 49 3 tn) (h4 : ro_no I 50 51 5 tn) (hv : v.toInt ≠ 3) : th_OI K sl Z (th_u I 32 0 tn v) := by
  obtain ⟨g1, g2, g3, g4, g5, g6, g7, g8⟩ := hI
  have q : ∀ e, e ≠ tn → th_u I 32 0 tn v 32 0 e = I 32 0 e := fun e he => th_u_slot he
  refine ⟨fun t' i' k' => ?_, fun k' => by rw [th_u_tag (by decide), th_u_tag (by decide), th_u_tag (by decide)]; exact g2 k', g3, fun t' i' k' q => by rw [th_u_tag (by omega)]; exact g4 t' i' k' q, ro_R_upd g5 h2 (fun _ => th_u_tag (by decide)) (fun _ => th_u_tag (by decide)) q (fun _ _ => th_u_tag (by decide)), ro_R_upd g6 h3 (fun _ => th_u_tag (by decide)) (fun _ => th_u_tag (by decide)) q (fun _ _ => th_u_tag (by decide)), ro_R_upd g7 h4 (fun _ => th_u_tag (by decide)) (fun _ => th_u_tag (by decide)) q (fun _ _ => th_u_tag (by decide)), fun n hn hs => ?_⟩
  · rcases th_u_or I 32 0 tn v t' i' k' with ⟨rfl, rfl, rfl, e⟩ | e
    · exact trivial
    · rw [e]; exact g1 t' i' k'
  · rw [th_u_tag (by decide)]
    by_cases e : n = tn
    · subst e
      rw [th_u_eq] at hs
      exact absurd hs hv
    · rw [q n e] at hs
      exact g8 n hn hs
theorem ro_app {K sl : Int} {Z I : th_I} {n tn : Nat} {o a b x : Int32} (hI : th_OI K sl Z I) (hv : th_valid o.toInt a.toInt b.toInt) (hx : 0 ≤ x.toInt ∧ x.toInt ≤ 24) : th_OI K sl Z (th_u (th_u (th_u (th_u I 21 0 n o) 22 0 n a) 23 0 n b) 24 0 tn x) := by
  obtain ⟨g1, g2, g3, g4, g5⟩ := hI
  refine ro_put ⟨fun t' i' k' => ?_, fun k' => ?_, g3, fun t' i' k' q => by rw [th_u_tag (by omega), th_u_tag (by omega), th_u_tag (by omega)]; exact g4 t' i' k' q, ?_⟩ rfl hx
  · rcases th_u_or (th_u (th_u I 21 0 n o) 22 0 n a) 23 0 n b t' i' k' with ⟨rfl, rfl, rfl, -⟩ | e
    · exact trivial
    · rw [e]
      rcases th_u_or (th_u I 21 0 n o) 22 0 n a t' i' k' with ⟨rfl, rfl, rfl, -⟩ | e
      · exact trivial
      · rw [e]
        rcases th_u_or I 21 0 n o t' i' k' with ⟨rfl, rfl, rfl, -⟩ | e
        · exact trivial
        · rw [e]; exact g1 t' i' k'
  · by_cases q : k' = n
    · subst q
      rw [th_u_tag (t' := 21) (by decide), th_u_tag (t' := 21) (by decide), th_u_eq, th_u_tag (t' := 22) (by decide), th_u_eq, th_u_eq]
      exact hv
    · rw [th_u_tag (t' := 21) (by decide), th_u_tag (t' := 21) (by decide), th_u_slot q, th_u_tag (t' := 22) (by decide), th_u_slot q, th_u_tag (t' := 22) (by decide), th_u_slot q, th_u_tag (t' := 23) (by decide), th_u_tag (t' := 23) (by decide)]
      exact g2 k'
  · obtain ⟨a1, a2, a3, a4⟩ := g5
    have f : ∀ t k, 24 ≤ t → th_u (th_u (th_u I 21 0 n o) 22 0 n a) 23 0 n b t 0 k = I t 0 k := fun t k h => by rw [th_u_tag (by omega), th_u_tag (by omega), th_u_tag (by omega)]
    refine ⟨ro_R_frame a1 (fun k => f _ k (by decide)) (fun k => f _ k (by decide)) (fun k => f _ k (by decide)) (fun k => f _ k (by decide)), ro_R_frame a2 (fun k => f _ k (by decide)) (fun k => f _ k (by decide)) (fun k => f _ k (by decide)) (fun k => f _ k (by decide)), ro_R_frame a3 (fun k => f _ k (by decide)) (fun k => f _ k (by decide)) (fun k => f _ k (by decide)) (fun k => f _ k (by decide)), fun m hm => ?_⟩
    rw [f 32 m (by decide), f 40 m (by decide)]
    exact a4 m hm
end
section
set_option maxRecDepth 100000 in
set_option maxHeartbeats 4000000 in
theorem o_O_begin (l : Launch) (hl : l.stackTraces = false) {K sl : Int} {Z : th_I} (I : th_I) (t : Int32) (tn : Nat) (hI : th_OI K sl Z I) (htn : (tn : Int) = t.toInt) (ht : 0 ≤ t.toInt ∧ t.toInt ≤ 4) : th_F l yn_O_begin cb_O_begin 2 (some .boolean) { frames := 1, cells := 0, slots := 0, locals := 21 } [.inr (some (20, 0)), .inl t] (th_m I) (th_ri (fun x J => th_OI K sl Z J ∧ (x.toInt = 0 ∧ J = I ∨ x.toInt = 1))) := by
  refine th_of hl (by decide +kernel) (Nat.le_of_ble_eq_true rfl) (fun z C hQ hN => ?_)
  show th_G l z 2 0 [(0, .inr (some (20, 0))), (1, .inl t)] [] (th_m I) 0 0
  have hb := hI.2.2.1
  refine th_aload_n C dc_O_begin_0 rfl rfl ?_
  refine th_iload_n C dc_O_begin_1 rfl rfl ?_
  refine tq_callVp C (o_O_alive l hl I t tn hI htn (by omega)) ok_O_128 cl_20 (show 0 < 1 from by omega) rfl (Nat.le_of_ble_eq_true rfl) dc_O_begin_2 rfl (fun x1 p1 => ?_)
  refine tq_if_eq (tgt := 10) C dc_O_begin_5 (by decide) rfl (fun c2 => ?_) (fun c2 => ?_)
  · refine th_aload_n C dc_O_begin_10 rfl rfl ?_
    refine tq_getR C dc_O_begin_11 cl_20 fd_O_43 rfl (show 0 < 1 from by omega) rfl ?_
    refine th_iload_n C dc_O_begin_14 rfl rfl ?_
    refine th_iconst (v := 1) C dc_O_begin_15 th_c_1 ?_
    refine tq_iastN C dc_O_begin_16 rfl (fun _ => rfl) (show 0 < 1 from by omega) rfl htn (show tn < 5 from by omega) ?_
    refine th_gen (P := fun J => th_OI K sl Z J ∧ J = th_u I 32 0 tn ((1 : Int32))) ⟨ro_state hI (ro_no_of hI.2.2.2.2.1 (by omega)) (ro_no_of hI.2.2.2.2.2.1 (by omega)) (ro_no_of hI.2.2.2.2.2.2.1 (by omega)) (by have := th_l_1; omega), rfl⟩ (fun I3 hI3 => ?_)
    obtain ⟨hI3, u3⟩ := hI3
    have e3 : (1 : Int32) = I3 32 0 tn := by rw [u3, th_u_eq]
    have g3 : 1 = (I3 32 0 tn).toInt := by rw [← e3]; exact th_l_1.symm
    refine th_aload_n C dc_O_begin_17 rfl rfl ?_
    refine tq_getR C dc_O_begin_18 cl_20 fd_O_46 rfl (show 0 < 1 from by omega) rfl ?_
    refine th_iload_n C dc_O_begin_21 rfl rfl ?_
    refine th_iconst (v := 0) C dc_O_begin_22 th_c_0 ?_
    refine tq_iastN C dc_O_begin_23 rfl (fun _ => rfl) (show 0 < 1 from by omega) rfl htn (show tn < 5 from by omega) ?_
    refine th_gen (P := fun J => th_OI K sl Z J ∧ J = th_u I3 33 0 tn ((0 : Int32))) ⟨ro_put hI3 rfl (show 0 ≤ (0 : Int32).toInt ∧ (0 : Int32).toInt ≤ 24 from by rw [th_l_0]; omega), rfl⟩ (fun I4 hI4 => ?_)
    obtain ⟨hI4, u4⟩ := hI4
    have e5 : (1 : Int32) = I4 32 0 tn := by rw [u4, th_u_tag (by decide)]; exact e3
    have g5 : (1 : Int32).toInt = (I4 32 0 tn).toInt := by rw [← e5]
    have e4 : (0 : Int32) = I4 33 0 tn := by rw [u4, th_u_eq]
    have g4 : 0 = (I4 33 0 tn).toInt := by rw [← e4]; exact th_l_0.symm
    refine th_aload_n C dc_O_begin_24 rfl rfl ?_
    refine tq_getR C dc_O_begin_25 cl_20 fd_O_31 rfl (show 0 < 1 from by omega) rfl ?_
    refine th_iload_n C dc_O_begin_28 rfl rfl ?_
    refine th_iconst (v := 0) C dc_O_begin_29 th_c_0 ?_
    refine tq_iastN C dc_O_begin_30 rfl (fun _ => rfl) (show 0 < 1 from by omega) rfl htn (show tn < 5 from by omega) ?_
    refine th_gen (P := fun J => th_OI K sl Z J ∧ J = th_u I4 28 0 tn ((0 : Int32))) ⟨ro_put hI4 rfl (show 0 ≤ (0 : Int32).toInt ∧ (0 : Int32).toInt ≤ 12 from by rw [th_l_0]; omega), rfl⟩ (fun I6 hI6 => ?_)
    obtain ⟨hI6, u6⟩ := hI6
    have e7 : (1 : Int32) = I6 32 0 tn := by rw [u6, th_u_tag (by decide)]; exact e5
    have g7 : (1 : Int32).toInt = (I6 32 0 tn).toInt := by rw [← e7]
    have e8 : (0 : Int32) = I6 33 0 tn := by rw [u6, th_u_tag (by decide)]; exact e4
    have g8 : (0 : Int32).toInt = (I6 33 0 tn).toInt := by rw [← e8]
    have e6 : (0 : Int32) = I6 28 0 tn := by rw [u6, th_u_eq]
    have g6 : 0 = (I6 28 0 tn).toInt := by rw [← e6]; exact th_l_0.symm
    refine th_aload_n C dc_O_begin_31 rfl rfl ?_
    refine tq_getR C dc_O_begin_32 cl_20 fd_O_40 rfl (show 0 < 1 from by omega) rfl ?_
    refine th_iload_n C dc_O_begin_35 rfl rfl ?_
    refine th_iconst (v := 0) C dc_O_begin_36 th_c_0 ?_
    refine tq_iastN C dc_O_begin_37 rfl (fun _ => rfl) (show 0 < 1 from by omega) rfl htn (show tn < 5 from by omega) ?_
    refine th_gen (P := fun J => th_OI K sl Z J ∧ J = th_u I6 31 0 tn ((0 : Int32))) ⟨ro_put hI6 rfl (show 0 ≤ (0 : Int32).toInt ∧ (0 : Int32).toInt ≤ 4 from by rw [th_l_0]; omega), rfl⟩ (fun I9 hI9 => ?_)
    obtain ⟨hI9, u9⟩ := hI9
    have e10 : (1 : Int32) = I9 32 0 tn := by rw [u9, th_u_tag (by decide)]; exact e7
    have g10 : (1 : Int32).toInt = (I9 32 0 tn).toInt := by rw [← e10]
    have e11 : (0 : Int32) = I9 33 0 tn := by rw [u9, th_u_tag (by decide)]; exact e8
    have g11 : (0 : Int32).toInt = (I9 33 0 tn).toInt := by rw [← e11]
    have e12 : (0 : Int32) = I9 28 0 tn := by rw [u9, th_u_tag (by decide)]; exact e6
    have g12 : (0 : Int32).toInt = (I9 28 0 tn).toInt := by rw [← e12]
    have e9 : (0 : Int32) = I9 31 0 tn := by rw [u9, th_u_eq]
    have g9 : 0 = (I9 31 0 tn).toInt := by rw [← e9]; exact th_l_0.symm
    refine th_aload_n C dc_O_begin_38 rfl rfl ?_
    refine tq_getR C dc_O_begin_39 cl_20 fd_O_52 rfl (show 0 < 1 from by omega) rfl ?_
    refine th_iload_n C dc_O_begin_42 rfl rfl ?_
    refine th_bipush (v := 24) C dc_O_begin_43 th_b_24 ?_
    refine tq_iastN C dc_O_begin_45 rfl (fun _ => rfl) (show 0 < 1 from by omega) rfl htn (show tn < 5 from by omega) ?_
    refine th_gen (P := fun J => th_OI K sl Z J ∧ J = th_u I9 35 0 tn ((24 : Int32))) ⟨ro_put hI9 rfl (show 0 ≤ (24 : Int32).toInt ∧ (24 : Int32).toInt ≤ 24 from by rw [th_l_24]; omega), rfl⟩ (fun I13 hI13 => ?_)
    obtain ⟨hI13, u13⟩ := hI13
    have e14 : (1 : Int32) = I13 32 0 tn := by rw [u13, th_u_tag (by decide)]; exact e10
    have g14 : (1 : Int32).toInt = (I13 32 0 tn).toInt := by rw [← e14]
    have e15 : (0 : Int32) = I13 33 0 tn := by rw [u13, th_u_tag (by decide)]; exact e11
    have g15 : (0 : Int32).toInt = (I13 33 0 tn).toInt := by rw [← e15]
    have e16 : (0 : Int32) = I13 28 0 tn := by rw [u13, th_u_tag (by decide)]; exact e12
    have g16 : (0 : Int32).toInt = (I13 28 0 tn).toInt := by rw [← e16]
    have e17 : (0 : Int32) = I13 31 0 tn := by rw [u13, th_u_tag (by decide)]; exact e9
    have g17 : (0 : Int32).toInt = (I13 31 0 tn).toInt := by rw [← e17]
    have e13 : (24 : Int32) = I13 35 0 tn := by rw [u13, th_u_eq]
    have g13 : 24 = (I13 35 0 tn).toInt := by rw [← e13]; exact th_l_24.symm
    refine th_aload_n C dc_O_begin_46 rfl rfl ?_
    refine tq_getR C dc_O_begin_47 cl_20 fd_O_73 rfl (show 0 < 1 from by omega) rfl ?_
    refine th_iload_n C dc_O_begin_50 rfl rfl ?_
    refine th_iconst (v := 0) C dc_O_begin_51 th_c_0 ?_
    refine tq_zastN C dc_O_begin_52 rfl (fun _ => rfl) (show 0 < 1 from by omega) rfl htn (show tn < 5 from by omega) rfl ?_
    refine th_gen (P := fun J => th_OI K sl Z J ∧ J = th_u I13 42 0 tn ((0 : Int32))) ⟨ro_put hI13 rfl trivial, rfl⟩ (fun I18 hI18 => ?_)
    obtain ⟨hI18, u18⟩ := hI18
    have e19 : (1 : Int32) = I18 32 0 tn := by rw [u18, th_u_tag (by decide)]; exact e14
    have g19 : (1 : Int32).toInt = (I18 32 0 tn).toInt := by rw [← e19]
    have e20 : (0 : Int32) = I18 33 0 tn := by rw [u18, th_u_tag (by decide)]; exact e15
    have g20 : (0 : Int32).toInt = (I18 33 0 tn).toInt := by rw [← e20]
    have e21 : (0 : Int32) = I18 28 0 tn := by rw [u18, th_u_tag (by decide)]; exact e16
    have g21 : (0 : Int32).toInt = (I18 28 0 tn).toInt := by rw [← e21]
    have e22 : (0 : Int32) = I18 31 0 tn := by rw [u18, th_u_tag (by decide)]; exact e17
    have g22 : (0 : Int32).toInt = (I18 31 0 tn).toInt := by rw [← e22]
    have e23 : (24 : Int32) = I18 35 0 tn := by rw [u18, th_u_tag (by decide)]; exact e13
    have g23 : (24 : Int32).toInt = (I18 35 0 tn).toInt := by rw [← e23]
    have e18 : (0 : Int32) = I18 42 0 tn := by rw [u18, th_u_eq]
    have g18 : 0 = (I18 42 0 tn).toInt := by rw [← e18]; exact th_l_0.symm
    refine th_aload_n C dc_O_begin_53 rfl rfl ?_
    refine tq_getR C dc_O_begin_54 cl_20 fd_O_77 rfl (show 0 < 1 from by omega) rfl ?_
    refine th_iload_n C dc_O_begin_57 rfl rfl ?_
    refine th_iconst (v := 0) C dc_O_begin_58 th_c_0 ?_
    refine tq_zastN C dc_O_begin_59 rfl (fun _ => rfl) (show 0 < 1 from by omega) rfl htn (show tn < 5 from by omega) rfl ?_
    refine th_gen (P := fun J => th_OI K sl Z J ∧ J = th_u I18 43 0 tn ((0 : Int32))) ⟨ro_put hI18 rfl trivial, rfl⟩ (fun I24 hI24 => ?_)
    obtain ⟨hI24, u24⟩ := hI24
    have e25 : (1 : Int32) = I24 32 0 tn := by rw [u24, th_u_tag (by decide)]; exact e19
    have g25 : (1 : Int32).toInt = (I24 32 0 tn).toInt := by rw [← e25]
    have e26 : (0 : Int32) = I24 33 0 tn := by rw [u24, th_u_tag (by decide)]; exact e20
    have g26 : (0 : Int32).toInt = (I24 33 0 tn).toInt := by rw [← e26]
    have e27 : (0 : Int32) = I24 28 0 tn := by rw [u24, th_u_tag (by decide)]; exact e21
    have g27 : (0 : Int32).toInt = (I24 28 0 tn).toInt := by rw [← e27]
    have e28 : (0 : Int32) = I24 31 0 tn := by rw [u24, th_u_tag (by decide)]; exact e22
    have g28 : (0 : Int32).toInt = (I24 31 0 tn).toInt := by rw [← e28]
    have e29 : (24 : Int32) = I24 35 0 tn := by rw [u24, th_u_tag (by decide)]; exact e23
    have g29 : (24 : Int32).toInt = (I24 35 0 tn).toInt := by rw [← e29]
    have e30 : (0 : Int32) = I24 42 0 tn := by rw [u24, th_u_tag (by decide)]; exact e18
    have g30 : (0 : Int32).toInt = (I24 42 0 tn).toInt := by rw [← e30]
    have e24 : (0 : Int32) = I24 43 0 tn := by rw [u24, th_u_eq]
    have g24 : 0 = (I24 43 0 tn).toInt := by rw [← e24]; exact th_l_0.symm
    refine th_aload_n C dc_O_begin_60 rfl rfl ?_
    refine tq_getR C dc_O_begin_61 cl_20 fd_O_55 rfl (show 0 < 1 from by omega) rfl ?_
    refine th_iload_n C dc_O_begin_64 rfl rfl ?_
    refine th_iconst (v := 0) C dc_O_begin_65 th_c_0 ?_
    refine tq_iastN C dc_O_begin_66 rfl (fun _ => rfl) (show 0 < 1 from by omega) rfl htn (show tn < 5 from by omega) ?_
    refine th_gen (P := fun J => th_OI K sl Z J ∧ J = th_u I24 36 0 tn ((0 : Int32))) ⟨ro_put hI24 rfl trivial, rfl⟩ (fun I31 hI31 => ?_)
    obtain ⟨hI31, u31⟩ := hI31
    have e32 : (1 : Int32) = I31 32 0 tn := by rw [u31, th_u_tag (by decide)]; exact e25
    have g32 : (1 : Int32).toInt = (I31 32 0 tn).toInt := by rw [← e32]
    have e33 : (0 : Int32) = I31 33 0 tn := by rw [u31, th_u_tag (by decide)]; exact e26
    have g33 : (0 : Int32).toInt = (I31 33 0 tn).toInt := by rw [← e33]
    have e34 : (0 : Int32) = I31 28 0 tn := by rw [u31, th_u_tag (by decide)]; exact e27
    have g34 : (0 : Int32).toInt = (I31 28 0 tn).toInt := by rw [← e34]
    have e35 : (0 : Int32) = I31 31 0 tn := by rw [u31, th_u_tag (by decide)]; exact e28
    have g35 : (0 : Int32).toInt = (I31 31 0 tn).toInt := by rw [← e35]
    have e36 : (24 : Int32) = I31 35 0 tn := by rw [u31, th_u_tag (by decide)]; exact e29
    have g36 : (24 : Int32).toInt = (I31 35 0 tn).toInt := by rw [← e36]
    have e37 : (0 : Int32) = I31 42 0 tn := by rw [u31, th_u_tag (by decide)]; exact e30
    have g37 : (0 : Int32).toInt = (I31 42 0 tn).toInt := by rw [← e37]
    have e38 : (0 : Int32) = I31 43 0 tn := by rw [u31, th_u_tag (by decide)]; exact e24
    have g38 : (0 : Int32).toInt = (I31 43 0 tn).toInt := by rw [← e38]
    have e31 : (0 : Int32) = I31 36 0 tn := by rw [u31, th_u_eq]
    have g31 : 0 = (I31 36 0 tn).toInt := by rw [← e31]; exact th_l_0.symm
    refine th_aload_n C dc_O_begin_67 rfl rfl ?_
    refine tq_getR C dc_O_begin_68 cl_20 fd_O_58 rfl (show 0 < 1 from by omega) rfl ?_
    refine th_iload_n C dc_O_begin_71 rfl rfl ?_
    refine th_dup2 C dc_O_begin_72 ?_
    refine tq_ialdN C dc_O_begin_73 rfl (fun _ => rfl) (show 0 < 1 from by omega) rfl htn (show tn < 5 from by omega) (fun x39 e39 => ?_)
    have g39 : x39.toInt = (I31 37 0 tn).toInt := by rw [e39]
    refine th_iconst (v := 1) C dc_O_begin_74 th_c_1 ?_
    refine tq_iadd C dc_O_begin_75 rfl th_l_1 (fun x40 e40 a40 => ?_)
    refine tq_iastN C dc_O_begin_76 rfl (fun _ => rfl) (show 0 < 1 from by omega) rfl htn (show tn < 5 from by omega) ?_
    refine th_gen (P := fun J => th_OI K sl Z J ∧ J = th_u I31 37 0 tn x40) ⟨ro_put hI31 rfl trivial, rfl⟩ (fun I41 hI41 => ?_)
    obtain ⟨hI41, u41⟩ := hI41
    have e42 : (1 : Int32) = I41 32 0 tn := by rw [u41, th_u_tag (by decide)]; exact e32
    have g42 : (1 : Int32).toInt = (I41 32 0 tn).toInt := by rw [← e42]
    have e43 : (0 : Int32) = I41 33 0 tn := by rw [u41, th_u_tag (by decide)]; exact e33
    have g43 : (0 : Int32).toInt = (I41 33 0 tn).toInt := by rw [← e43]
    have e44 : (0 : Int32) = I41 28 0 tn := by rw [u41, th_u_tag (by decide)]; exact e34
    have g44 : (0 : Int32).toInt = (I41 28 0 tn).toInt := by rw [← e44]
    have e45 : (0 : Int32) = I41 31 0 tn := by rw [u41, th_u_tag (by decide)]; exact e35
    have g45 : (0 : Int32).toInt = (I41 31 0 tn).toInt := by rw [← e45]
    have e46 : (24 : Int32) = I41 35 0 tn := by rw [u41, th_u_tag (by decide)]; exact e36
    have g46 : (24 : Int32).toInt = (I41 35 0 tn).toInt := by rw [← e46]
    have e47 : (0 : Int32) = I41 42 0 tn := by rw [u41, th_u_tag (by decide)]; exact e37
    have g47 : (0 : Int32).toInt = (I41 42 0 tn).toInt := by rw [← e47]
    have e48 : (0 : Int32) = I41 43 0 tn := by rw [u41, th_u_tag (by decide)]; exact e38
    have g48 : (0 : Int32).toInt = (I41 43 0 tn).toInt := by rw [← e48]
    have e49 : (0 : Int32) = I41 36 0 tn := by rw [u41, th_u_tag (by decide)]; exact e31
    have g49 : (0 : Int32).toInt = (I41 36 0 tn).toInt := by rw [← e49]
    have e41 : x40 = I41 37 0 tn := by rw [u41, th_u_eq]
    have g41 : x40.toInt = (I41 37 0 tn).toInt := by rw [← e41]
    refine th_iconst (v := 1) C dc_O_begin_77 th_c_1 ?_
    exact th_zret C hQ dc_O_begin_78 (rfl) (by decide) (by decide) ⟨_, _, rfl, rfl, hI41, Or.inr th_l_1⟩
  · refine th_iconst (v := 0) C dc_O_begin_8 th_c_0 ?_
    exact th_zret C hQ dc_O_begin_9 (rfl) (by decide) (by decide) ⟨_, _, rfl, rfl, hI, Or.inl ⟨th_l_0, rfl⟩⟩
end
section
set_option maxRecDepth 100000 in
set_option maxHeartbeats 4000000 in
theorem o_O_clear (l : Launch) (hl : l.stackTraces = false) {K sl : Int} {Z : th_I} (I : th_I) (t : Int32) (hI : th_OI K sl Z I) : th_F l yn_O_clear cb_O_clear 3 (some .int) { frames := 1, cells := 0, slots := 0, locals := 22 } [.inr (some (20, 0)), .inl t] (th_m I) (th_ri (fun x J => th_OI K sl Z J ∧ (True))) := by
  refine th_of hl (by decide +kernel) (Nat.le_of_ble_eq_true rfl) (fun z C hQ hN => ?_)
  show th_G l z 3 0 [(0, .inr (some (20, 0))), (1, .inl t)] [] (th_m I) 0 0
  have hb := hI.2.2.1
  refine th_aload_n C dc_O_clear_0 rfl rfl ?_
  refine th_iconst (v := 0) C dc_O_clear_1 th_c_0 ?_
  refine tq_putI C dc_O_clear_2 cl_20 fd_O_114 rfl (show 0 < 1 from by omega) rfl rfl ?_
  refine th_gen (P := fun J => th_OI K sl Z J ∧ J = th_u I 20 0 34 ((0 : Int32))) ⟨ro_put hI rfl trivial, rfl⟩ (fun I1 hI1 => ?_)
  obtain ⟨hI1, u1⟩ := hI1
  have e1 : (0 : Int32) = I1 20 0 34 := by rw [u1, th_u_eq]
  have g1 : 0 = (I1 20 0 34).toInt := by rw [← e1]; exact th_l_0.symm
  refine th_iload_n C dc_O_clear_5 rfl rfl ?_
  refine th_iconst (v := 0) C dc_O_clear_6 th_c_0 ?_
  refine th_iconst (v := 4) C dc_O_clear_7 th_c_4 ?_
  refine tq_callSp C (o_O_is l hl I1 t ((0 : Int32)) ((4 : Int32))) ok_O_117 rfl (Nat.le_of_ble_eq_true rfl) dc_O_clear_8 rfl (fun x2 p2 => ?_)
  try simp only [th_l_0, th_l_4] at p2
  refine tq_if_ne (tgt := 20) C dc_O_clear_11 (by decide) rfl (fun c3 => ?_) (fun c3 => ?_)
  · refine th_aload_n C dc_O_clear_20 rfl rfl ?_
    refine th_iload_n C dc_O_clear_21 rfl rfl ?_
    obtain ⟨n4, m4⟩ := th_nat (a := t.toInt) (by omega)
    refine tq_callVp C (o_O_alive l hl I1 t n4 hI1 m4 (by omega)) ok_O_128 cl_20 (show 0 < 1 from by omega) rfl (Nat.le_of_ble_eq_true rfl) dc_O_clear_22 rfl (fun x5 p5 => ?_)
    refine tq_if_eq (tgt := 34) C dc_O_clear_25 (by decide) rfl (fun c6 => ?_) (fun c6 => ?_)
    · refine th_aload_n C dc_O_clear_34 rfl rfl ?_
      refine tq_getR C dc_O_clear_35 cl_20 fd_O_19 rfl (show 0 < 1 from by omega) rfl ?_
      refine th_iload_n C dc_O_clear_38 rfl rfl ?_
      refine tq_ialdN C dc_O_clear_39 rfl (fun _ => rfl) (show 0 < 1 from by omega) rfl m4 (show n4 < 5 from by omega) (fun x7 e7 => ?_)
      have g7 : x7.toInt = (I1 24 0 n4).toInt := by rw [e7]
      have r7 : 0 ≤ x7.toInt ∧ x7.toInt ≤ 24 := by rw [e7]; exact hI1.1 24 0 n4
      refine th_istore_n (lv' := [(0, .inr (some (20, 0))), (1, .inl t), (2, .inl x7)]) C dc_O_clear_40 rfl (by decide) rfl ?_
      refine th_aload_n C dc_O_clear_41 rfl rfl ?_
      refine tq_getR C dc_O_clear_42 cl_20 fd_O_19 rfl (show 0 < 1 from by omega) rfl ?_
      refine th_iload_n C dc_O_clear_45 rfl rfl ?_
      refine th_iconst (v := 0) C dc_O_clear_46 th_c_0 ?_
      refine tq_iastN C dc_O_clear_47 rfl (fun _ => rfl) (show 0 < 1 from by omega) rfl m4 (show n4 < 5 from by omega) ?_
      refine th_gen (P := fun J => th_OI K sl Z J ∧ J = th_u I1 24 0 n4 ((0 : Int32))) ⟨ro_put hI1 rfl (show 0 ≤ (0 : Int32).toInt ∧ (0 : Int32).toInt ≤ 24 from by rw [th_l_0]; omega), rfl⟩ (fun I8 hI8 => ?_)
      obtain ⟨hI8, u8⟩ := hI8
      have e9 : (0 : Int32) = I8 20 0 34 := by rw [u8, th_u_tag (by decide)]; exact e1
      have g9 : (0 : Int32).toInt = (I8 20 0 34).toInt := by rw [← e9]
      have e8 : (0 : Int32) = I8 24 0 n4 := by rw [u8, th_u_eq]
      have g8 : 0 = (I8 24 0 n4).toInt := by rw [← e8]; exact th_l_0.symm
      refine th_iload_n C dc_O_clear_48 rfl rfl ?_
      exact th_iret C hQ dc_O_clear_49 (by decide) (by decide) ⟨_, _, rfl, rfl, hI8, trivial⟩
    · refine th_aload_n C dc_O_clear_28 rfl rfl ?_
      refine th_iconst (v := 2) C dc_O_clear_29 th_c_2 ?_
      refine tq_callVi C (o_O_refuse l hl I1 ((2 : Int32)) hI1) ok_O_124 cl_20 (show 0 < 1 from by omega) rfl (Nat.le_of_ble_eq_true rfl) dc_O_clear_30 rfl (fun x10 I10 p10 => ?_)
      obtain ⟨hI10, p10⟩ := p10
      try simp only [th_l_2] at p10
      exact th_iret C hQ dc_O_clear_33 (by decide) (by decide) ⟨_, _, rfl, rfl, hI10, trivial⟩
  · refine th_aload_n C dc_O_clear_14 rfl rfl ?_
    refine th_iconst (v := 1) C dc_O_clear_15 th_c_1 ?_
    refine tq_callVi C (o_O_refuse l hl I1 ((1 : Int32)) hI1) ok_O_124 cl_20 (show 0 < 1 from by omega) rfl (Nat.le_of_ble_eq_true rfl) dc_O_clear_16 rfl (fun x11 I11 p11 => ?_)
    obtain ⟨hI11, p11⟩ := p11
    try simp only [th_l_1] at p11
    exact th_iret C hQ dc_O_clear_19 (by decide) (by decide) ⟨_, _, rfl, rfl, hI11, trivial⟩

set_option maxRecDepth 100000 in
set_option maxHeartbeats 4000000 in
theorem o_O_start (l : Launch) (hl : l.stackTraces = false) {K sl : Int} {Z : th_I} (I : th_I) (t : Int32) (hI : th_OI K sl Z I) : th_F l yn_O_start cb_O_start 2 (some .int) { frames := 2, cells := 0, slots := 0, locals := 42 } [.inr (some (20, 0)), .inl t] (th_m I) (th_ri (fun x J => th_OI K sl Z J ∧ (True))) := by
  refine th_of hl (by decide +kernel) (Nat.le_of_ble_eq_true rfl) (fun z C hQ hN => ?_)
  show th_G l z 2 0 [(0, .inr (some (20, 0))), (1, .inl t)] [] (th_m I) 0 0
  have hb := hI.2.2.1
  refine th_aload_n C dc_O_start_0 rfl rfl ?_
  refine th_iconst (v := 0) C dc_O_start_1 th_c_0 ?_
  refine tq_putI C dc_O_start_2 cl_20 fd_O_114 rfl (show 0 < 1 from by omega) rfl rfl ?_
  refine th_gen (P := fun J => th_OI K sl Z J ∧ J = th_u I 20 0 34 ((0 : Int32))) ⟨ro_put hI rfl trivial, rfl⟩ (fun I1 hI1 => ?_)
  obtain ⟨hI1, u1⟩ := hI1
  have e1 : (0 : Int32) = I1 20 0 34 := by rw [u1, th_u_eq]
  have g1 : 0 = (I1 20 0 34).toInt := by rw [← e1]; exact th_l_0.symm
  refine th_iload_n C dc_O_start_5 rfl rfl ?_
  refine th_iconst (v := 0) C dc_O_start_6 th_c_0 ?_
  refine th_iconst (v := 4) C dc_O_start_7 th_c_4 ?_
  refine tq_callSp C (o_O_is l hl I1 t ((0 : Int32)) ((4 : Int32))) ok_O_117 rfl (Nat.le_of_ble_eq_true rfl) dc_O_start_8 rfl (fun x2 p2 => ?_)
  try simp only [th_l_0, th_l_4] at p2
  refine tq_if_ne (tgt := 20) C dc_O_start_11 (by decide) rfl (fun c3 => ?_) (fun c3 => ?_)
  · refine th_aload_n C dc_O_start_20 rfl rfl ?_
    refine th_iload_n C dc_O_start_21 rfl rfl ?_
    obtain ⟨n4, m4⟩ := th_nat (a := t.toInt) (by omega)
    refine tq_callVi C (o_O_begin l hl I1 t n4 hI1 m4 (by omega)) ok_O_179 cl_20 (show 0 < 1 from by omega) rfl (Nat.le_of_ble_eq_true rfl) dc_O_start_22 rfl (fun x5 I5 p5 => ?_)
    obtain ⟨hI5, p5⟩ := p5
    refine tq_if_eq (tgt := 32) C dc_O_start_25 (by decide) rfl (fun c6 => ?_) (fun c6 => ?_)
    · refine th_iconst (v := 0) C dc_O_start_32 th_c_0 ?_
      exact th_iret C hQ dc_O_start_33 (by decide) (by decide) ⟨_, _, rfl, rfl, hI5, trivial⟩
    · refine th_iconst (v := 1) C dc_O_start_28 th_c_1 ?_
      refine th_goto (tgt := 33) C dc_O_start_29 (by decide) ?_
      exact th_iret C hQ dc_O_start_33 (by decide) (by decide) ⟨_, _, rfl, rfl, hI5, trivial⟩
  · refine th_aload_n C dc_O_start_14 rfl rfl ?_
    refine th_iconst (v := 1) C dc_O_start_15 th_c_1 ?_
    refine tq_callVi C (o_O_refuse l hl I1 ((1 : Int32)) hI1) ok_O_124 cl_20 (show 0 < 1 from by omega) rfl (Nat.le_of_ble_eq_true rfl) dc_O_start_16 rfl (fun x7 I7 p7 => ?_)
    obtain ⟨hI7, p7⟩ := p7
    try simp only [th_l_1] at p7
    exact th_iret C hQ dc_O_start_19 (by decide) (by decide) ⟨_, _, rfl, rfl, hI7, trivial⟩

set_option maxRecDepth 100000 in
set_option maxHeartbeats 4000000 in
theorem o_O_global (l : Launch) (hl : l.stackTraces = false) {K sl : Int} {Z : th_I} (I : th_I) (s : Int32) (v : Int32) (hI : th_OI K sl Z I) : th_F l yn_O_global cb_O_global 4 (some .int) { frames := 1, cells := 0, slots := 0, locals := 22 } [.inr (some (20, 0)), .inl s, .inl v] (th_m I) (th_ri (fun x J => th_OI K sl Z J ∧ (True))) := by
  refine th_of hl (by decide +kernel) (Nat.le_of_ble_eq_true rfl) (fun z C hQ hN => ?_)
  show th_G l z 4 0 [(0, .inr (some (20, 0))), (1, .inl s), (2, .inl v)] [] (th_m I) 0 0
  have hb := hI.2.2.1
  refine th_aload_n C dc_O_global_0 rfl rfl ?_
  refine th_iconst (v := 0) C dc_O_global_1 th_c_0 ?_
  refine tq_putI C dc_O_global_2 cl_20 fd_O_114 rfl (show 0 < 1 from by omega) rfl rfl ?_
  refine th_gen (P := fun J => th_OI K sl Z J ∧ J = th_u I 20 0 34 ((0 : Int32))) ⟨ro_put hI rfl trivial, rfl⟩ (fun I1 hI1 => ?_)
  obtain ⟨hI1, u1⟩ := hI1
  have e1 : (0 : Int32) = I1 20 0 34 := by rw [u1, th_u_eq]
  have g1 : 0 = (I1 20 0 34).toInt := by rw [← e1]; exact th_l_0.symm
  refine th_iload_n C dc_O_global_5 rfl rfl ?_
  refine th_iconst (v := 0) C dc_O_global_6 th_c_0 ?_
  refine th_iconst (v := 3) C dc_O_global_7 th_c_3 ?_
  refine tq_callSp C (o_O_is l hl I1 s ((0 : Int32)) ((3 : Int32))) ok_O_117 rfl (Nat.le_of_ble_eq_true rfl) dc_O_global_8 rfl (fun x2 p2 => ?_)
  try simp only [th_l_0, th_l_3] at p2
  refine tq_if_ne (tgt := 20) C dc_O_global_11 (by decide) rfl (fun c3 => ?_) (fun c3 => ?_)
  · refine th_aload_n C dc_O_global_20 rfl rfl ?_
    refine tq_getR C dc_O_global_21 cl_20 fd_O_22 rfl (show 0 < 1 from by omega) rfl ?_
    refine th_iload_n C dc_O_global_24 rfl rfl ?_
    obtain ⟨n5, m5⟩ := th_nat (a := s.toInt) (by omega)
    refine tq_ialdN C dc_O_global_25 rfl (fun _ => rfl) (show 0 < 1 from by omega) rfl m5 (show n5 < 4 from by omega) (fun x4 e4 => ?_)
    have g4 : x4.toInt = (I1 25 0 n5).toInt := by rw [e4]
    refine th_istore_n (lv' := [(0, .inr (some (20, 0))), (1, .inl s), (2, .inl v), (3, .inl x4)]) C dc_O_global_26 rfl (by decide) rfl ?_
    refine th_aload_n C dc_O_global_27 rfl rfl ?_
    refine tq_getR C dc_O_global_28 cl_20 fd_O_22 rfl (show 0 < 1 from by omega) rfl ?_
    refine th_iload_n C dc_O_global_31 rfl rfl ?_
    refine th_iload_n C dc_O_global_32 rfl rfl ?_
    refine tq_iastN C dc_O_global_33 rfl (fun _ => rfl) (show 0 < 1 from by omega) rfl m5 (show n5 < 4 from by omega) ?_
    refine th_gen (P := fun J => th_OI K sl Z J ∧ J = th_u I1 25 0 n5 v) ⟨ro_put hI1 rfl trivial, rfl⟩ (fun I6 hI6 => ?_)
    obtain ⟨hI6, u6⟩ := hI6
    have e7 : (0 : Int32) = I6 20 0 34 := by rw [u6, th_u_tag (by decide)]; exact e1
    have g7 : (0 : Int32).toInt = (I6 20 0 34).toInt := by rw [← e7]
    have e6 : v = I6 25 0 n5 := by rw [u6, th_u_eq]
    have g6 : v.toInt = (I6 25 0 n5).toInt := by rw [← e6]
    refine th_iload_n C dc_O_global_34 rfl rfl ?_
    exact th_iret C hQ dc_O_global_35 (by decide) (by decide) ⟨_, _, rfl, rfl, hI6, trivial⟩
  · refine th_aload_n C dc_O_global_14 rfl rfl ?_
    refine th_iconst (v := 1) C dc_O_global_15 th_c_1 ?_
    refine tq_callVi C (o_O_refuse l hl I1 ((1 : Int32)) hI1) ok_O_124 cl_20 (show 0 < 1 from by omega) rfl (Nat.le_of_ble_eq_true rfl) dc_O_global_16 rfl (fun x8 I8 p8 => ?_)
    obtain ⟨hI8, p8⟩ := p8
    try simp only [th_l_1] at p8
    exact th_iret C hQ dc_O_global_19 (by decide) (by decide) ⟨_, _, rfl, rfl, hI8, trivial⟩

set_option maxRecDepth 100000 in
set_option maxHeartbeats 4000000 in
theorem o_O_special (l : Launch) (hl : l.stackTraces = false) {K sl : Int} {Z : th_I} (I : th_I) (t : Int32) (s : Int32) (hI : th_OI K sl Z I) : th_F l yn_O_special cb_O_special 3 (some .int) { frames := 2, cells := 0, slots := 0, locals := 46 } [.inr (some (20, 0)), .inl t, .inl s] (th_m I) (th_ri (fun x J => th_OI K sl Z J ∧ (True))) := by
  refine th_of hl (by decide +kernel) (Nat.le_of_ble_eq_true rfl) (fun z C hQ hN => ?_)
  show th_G l z 3 0 [(0, .inr (some (20, 0))), (1, .inl t), (2, .inl s)] [] (th_m I) 0 0
  have hb := hI.2.2.1
  refine th_aload_n C dc_O_special_0 rfl rfl ?_
  refine th_iconst (v := 0) C dc_O_special_1 th_c_0 ?_
  refine tq_putI C dc_O_special_2 cl_20 fd_O_114 rfl (show 0 < 1 from by omega) rfl rfl ?_
  refine th_gen (P := fun J => th_OI K sl Z J ∧ J = th_u I 20 0 34 ((0 : Int32))) ⟨ro_put hI rfl trivial, rfl⟩ (fun I1 hI1 => ?_)
  obtain ⟨hI1, u1⟩ := hI1
  have e1 : (0 : Int32) = I1 20 0 34 := by rw [u1, th_u_eq]
  have g1 : 0 = (I1 20 0 34).toInt := by rw [← e1]; exact th_l_0.symm
  refine th_iload_n C dc_O_special_5 rfl rfl ?_
  refine th_iconst (v := 0) C dc_O_special_6 th_c_0 ?_
  refine th_iconst (v := 4) C dc_O_special_7 th_c_4 ?_
  refine tq_callSp C (o_O_is l hl I1 t ((0 : Int32)) ((4 : Int32))) ok_O_117 rfl (Nat.le_of_ble_eq_true rfl) dc_O_special_8 rfl (fun x2 p2 => ?_)
  try simp only [th_l_0, th_l_4] at p2
  refine tq_if_eq (tgt := 32) C dc_O_special_11 (by decide) rfl (fun c3 => ?_) (fun c3 => ?_)
  · refine th_aload_n C dc_O_special_32 rfl rfl ?_
    refine th_iconst (v := 1) C dc_O_special_33 th_c_1 ?_
    refine tq_callVi C (o_O_refuse l hl I1 ((1 : Int32)) hI1) ok_O_124 cl_20 (show 0 < 1 from by omega) rfl (Nat.le_of_ble_eq_true rfl) dc_O_special_34 rfl (fun x4 I4 p4 => ?_)
    obtain ⟨hI4, p4⟩ := p4
    try simp only [th_l_1] at p4
    exact th_iret C hQ dc_O_special_37 (by decide) (by decide) ⟨_, _, rfl, rfl, hI4, trivial⟩
  · refine th_iload_n C dc_O_special_14 rfl rfl ?_
    refine th_iconst (v := 0) C dc_O_special_15 th_c_0 ?_
    refine th_iconst (v := 3) C dc_O_special_16 th_c_3 ?_
    refine tq_callSp C (o_O_is l hl I1 s ((0 : Int32)) ((3 : Int32))) ok_O_117 rfl (Nat.le_of_ble_eq_true rfl) dc_O_special_17 rfl (fun x5 p5 => ?_)
    try simp only [th_l_0, th_l_3] at p5
    refine tq_if_eq (tgt := 32) C dc_O_special_20 (by decide) rfl (fun c6 => ?_) (fun c6 => ?_)
    · refine th_aload_n C dc_O_special_32 rfl rfl ?_
      refine th_iconst (v := 1) C dc_O_special_33 th_c_1 ?_
      refine tq_callVi C (o_O_refuse l hl I1 ((1 : Int32)) hI1) ok_O_124 cl_20 (show 0 < 1 from by omega) rfl (Nat.le_of_ble_eq_true rfl) dc_O_special_34 rfl (fun x7 I7 p7 => ?_)
      obtain ⟨hI7, p7⟩ := p7
      try simp only [th_l_1] at p7
      exact th_iret C hQ dc_O_special_37 (by decide) (by decide) ⟨_, _, rfl, rfl, hI7, trivial⟩
    · refine th_aload_n C dc_O_special_23 rfl rfl ?_
      refine th_iload_n C dc_O_special_24 rfl rfl ?_
      refine th_iload_n C dc_O_special_25 rfl rfl ?_
      refine tq_callVp C (o_O_get l hl I1 t s hI1 (by omega) (by omega)) ok_O_136 cl_20 (show 0 < 1 from by omega) rfl (Nat.le_of_ble_eq_true rfl) dc_O_special_26 rfl (fun x8 p8 => ?_)
      refine th_goto (tgt := 37) C dc_O_special_29 (by decide) ?_
      exact th_iret C hQ dc_O_special_37 (by decide) (by decide) ⟨_, _, rfl, rfl, hI1, trivial⟩

set_option maxRecDepth 100000 in
set_option maxHeartbeats 4000000 in
theorem o_O_look (l : Launch) (hl : l.stackTraces = false) {K sl : Int} {Z : th_I} (I : th_I) (t : Int32) (w : Int32) (hI : th_OI K sl Z I) : th_F l yn_O_look cb_O_look 3 (some .int) { frames := 1, cells := 0, slots := 0, locals := 22 } [.inr (some (20, 0)), .inl t, .inl w] (th_m I) (th_ri (fun x J => th_OI K sl Z J ∧ (True))) := by
  refine th_of hl (by decide +kernel) (Nat.le_of_ble_eq_true rfl) (fun z C hQ hN => ?_)
  show th_G l z 3 0 [(0, .inr (some (20, 0))), (1, .inl t), (2, .inl w)] [] (th_m I) 0 0
  have hb := hI.2.2.1
  refine th_aload_n C dc_O_look_0 rfl rfl ?_
  refine th_iconst (v := 0) C dc_O_look_1 th_c_0 ?_
  refine tq_putI C dc_O_look_2 cl_20 fd_O_114 rfl (show 0 < 1 from by omega) rfl rfl ?_
  refine th_gen (P := fun J => th_OI K sl Z J ∧ J = th_u I 20 0 34 ((0 : Int32))) ⟨ro_put hI rfl trivial, rfl⟩ (fun I1 hI1 => ?_)
  obtain ⟨hI1, u1⟩ := hI1
  have e1 : (0 : Int32) = I1 20 0 34 := by rw [u1, th_u_eq]
  have g1 : 0 = (I1 20 0 34).toInt := by rw [← e1]; exact th_l_0.symm
  refine th_iload_n C dc_O_look_5 rfl rfl ?_
  refine th_iconst (v := 0) C dc_O_look_6 th_c_0 ?_
  refine th_iconst (v := 4) C dc_O_look_7 th_c_4 ?_
  refine tq_callSp C (o_O_is l hl I1 t ((0 : Int32)) ((4 : Int32))) ok_O_117 rfl (Nat.le_of_ble_eq_true rfl) dc_O_look_8 rfl (fun x2 p2 => ?_)
  try simp only [th_l_0, th_l_4] at p2
  refine tq_if_ne (tgt := 20) C dc_O_look_11 (by decide) rfl (fun c3 => ?_) (fun c3 => ?_)
  · refine th_iload_n C dc_O_look_20 rfl rfl ?_
    have w4 : w.toInt = 0 ∨ w.toInt = 1 ∨ w.toInt = 2 ∨ w.toInt = 3 ∨ w.toInt = 4 ∨ w.toInt = 5 ∨ w.toInt = 6 ∨ w.toInt = 7 ∨ w.toInt = 8 ∨ w.toInt = 9 ∨ (w.toInt < 0 ∨ 9 < w.toInt) := by omega
    rcases w4 with w4 | w4 | w4 | w4 | w4 | w4 | w4 | w4 | w4 | w4 | w4
    · refine th_tableIn (tgt := 76) C dc_O_look_21 (by omega) (by omega) (by rw [w4]; rfl) (by decide) ?_
      refine th_aload_n C dc_O_look_76 rfl rfl ?_
      refine tq_getR C dc_O_look_77 cl_20 fd_O_43 rfl (show 0 < 1 from by omega) rfl ?_
      refine th_iload_n C dc_O_look_80 rfl rfl ?_
      obtain ⟨n6, m6⟩ := th_nat (a := t.toInt) (by omega)
      refine tq_ialdN C dc_O_look_81 rfl (fun _ => rfl) (show 0 < 1 from by omega) rfl m6 (show n6 < 5 from by omega) (fun x5 e5 => ?_)
      have g5 : x5.toInt = (I1 32 0 n6).toInt := by rw [e5]
      exact th_iret C hQ dc_O_look_82 (by decide) (by decide) ⟨_, _, rfl, rfl, hI1, trivial⟩
    · refine th_tableIn (tgt := 83) C dc_O_look_21 (by omega) (by omega) (by rw [w4]; rfl) (by decide) ?_
      refine th_aload_n C dc_O_look_83 rfl rfl ?_
      refine tq_getR C dc_O_look_84 cl_20 fd_O_46 rfl (show 0 < 1 from by omega) rfl ?_
      refine th_iload_n C dc_O_look_87 rfl rfl ?_
      obtain ⟨n8, m8⟩ := th_nat (a := t.toInt) (by omega)
      refine tq_ialdN C dc_O_look_88 rfl (fun _ => rfl) (show 0 < 1 from by omega) rfl m8 (show n8 < 5 from by omega) (fun x7 e7 => ?_)
      have g7 : x7.toInt = (I1 33 0 n8).toInt := by rw [e7]
      have r7 : 0 ≤ x7.toInt ∧ x7.toInt ≤ 24 := by rw [e7]; exact hI1.1 33 0 n8
      exact th_iret C hQ dc_O_look_89 (by decide) (by decide) ⟨_, _, rfl, rfl, hI1, trivial⟩
    · refine th_tableIn (tgt := 90) C dc_O_look_21 (by omega) (by omega) (by rw [w4]; rfl) (by decide) ?_
      refine th_aload_n C dc_O_look_90 rfl rfl ?_
      refine tq_getR C dc_O_look_91 cl_20 fd_O_49 rfl (show 0 < 1 from by omega) rfl ?_
      refine th_iload_n C dc_O_look_94 rfl rfl ?_
      obtain ⟨n10, m10⟩ := th_nat (a := t.toInt) (by omega)
      refine tq_ialdN C dc_O_look_95 rfl (fun _ => rfl) (show 0 < 1 from by omega) rfl m10 (show n10 < 5 from by omega) (fun x9 e9 => ?_)
      have g9 : x9.toInt = (I1 34 0 n10).toInt := by rw [e9]
      exact th_iret C hQ dc_O_look_96 (by decide) (by decide) ⟨_, _, rfl, rfl, hI1, trivial⟩
    · refine th_tableIn (tgt := 97) C dc_O_look_21 (by omega) (by omega) (by rw [w4]; rfl) (by decide) ?_
      refine th_aload_n C dc_O_look_97 rfl rfl ?_
      refine tq_getR C dc_O_look_98 cl_20 fd_O_31 rfl (show 0 < 1 from by omega) rfl ?_
      refine th_iload_n C dc_O_look_101 rfl rfl ?_
      obtain ⟨n12, m12⟩ := th_nat (a := t.toInt) (by omega)
      refine tq_ialdN C dc_O_look_102 rfl (fun _ => rfl) (show 0 < 1 from by omega) rfl m12 (show n12 < 5 from by omega) (fun x11 e11 => ?_)
      have g11 : x11.toInt = (I1 28 0 n12).toInt := by rw [e11]
      have r11 : 0 ≤ x11.toInt ∧ x11.toInt ≤ 12 := by rw [e11]; exact hI1.1 28 0 n12
      exact th_iret C hQ dc_O_look_103 (by decide) (by decide) ⟨_, _, rfl, rfl, hI1, trivial⟩
    · refine th_tableIn (tgt := 104) C dc_O_look_21 (by omega) (by omega) (by rw [w4]; rfl) (by decide) ?_
      refine th_aload_n C dc_O_look_104 rfl rfl ?_
      refine tq_getR C dc_O_look_105 cl_20 fd_O_40 rfl (show 0 < 1 from by omega) rfl ?_
      refine th_iload_n C dc_O_look_108 rfl rfl ?_
      obtain ⟨n14, m14⟩ := th_nat (a := t.toInt) (by omega)
      refine tq_ialdN C dc_O_look_109 rfl (fun _ => rfl) (show 0 < 1 from by omega) rfl m14 (show n14 < 5 from by omega) (fun x13 e13 => ?_)
      have g13 : x13.toInt = (I1 31 0 n14).toInt := by rw [e13]
      have r13 : 0 ≤ x13.toInt ∧ x13.toInt ≤ 4 := by rw [e13]; exact hI1.1 31 0 n14
      exact th_iret C hQ dc_O_look_110 (by decide) (by decide) ⟨_, _, rfl, rfl, hI1, trivial⟩
    · refine th_tableIn (tgt := 111) C dc_O_look_21 (by omega) (by omega) (by rw [w4]; rfl) (by decide) ?_
      refine th_aload_n C dc_O_look_111 rfl rfl ?_
      refine tq_getR C dc_O_look_112 cl_20 fd_O_73 rfl (show 0 < 1 from by omega) rfl ?_
      refine th_iload_n C dc_O_look_115 rfl rfl ?_
      obtain ⟨n16, m16⟩ := th_nat (a := t.toInt) (by omega)
      refine tq_zaldN C dc_O_look_116 rfl (fun _ => rfl) (show 0 < 1 from by omega) rfl m16 (show n16 < 5 from by omega) (fun x15 e15 => ?_)
      have g15 : x15.toInt = (I1 42 0 n16).toInt := by rw [e15]
      refine tq_if_eq (tgt := 124) C dc_O_look_117 (by decide) rfl (fun c17 => ?_) (fun c17 => ?_)
      · refine th_iconst (v := 0) C dc_O_look_124 th_c_0 ?_
        exact th_iret C hQ dc_O_look_125 (by decide) (by decide) ⟨_, _, rfl, rfl, hI1, trivial⟩
      · refine th_iconst (v := 1) C dc_O_look_120 th_c_1 ?_
        refine th_goto (tgt := 125) C dc_O_look_121 (by decide) ?_
        exact th_iret C hQ dc_O_look_125 (by decide) (by decide) ⟨_, _, rfl, rfl, hI1, trivial⟩
    · refine th_tableIn (tgt := 126) C dc_O_look_21 (by omega) (by omega) (by rw [w4]; rfl) (by decide) ?_
      refine th_aload_n C dc_O_look_126 rfl rfl ?_
      refine tq_getR C dc_O_look_127 cl_20 fd_O_52 rfl (show 0 < 1 from by omega) rfl ?_
      refine th_iload_n C dc_O_look_130 rfl rfl ?_
      obtain ⟨n19, m19⟩ := th_nat (a := t.toInt) (by omega)
      refine tq_ialdN C dc_O_look_131 rfl (fun _ => rfl) (show 0 < 1 from by omega) rfl m19 (show n19 < 5 from by omega) (fun x18 e18 => ?_)
      have g18 : x18.toInt = (I1 35 0 n19).toInt := by rw [e18]
      have r18 : 0 ≤ x18.toInt ∧ x18.toInt ≤ 24 := by rw [e18]; exact hI1.1 35 0 n19
      exact th_iret C hQ dc_O_look_132 (by decide) (by decide) ⟨_, _, rfl, rfl, hI1, trivial⟩
    · refine th_tableIn (tgt := 133) C dc_O_look_21 (by omega) (by omega) (by rw [w4]; rfl) (by decide) ?_
      refine th_aload_n C dc_O_look_133 rfl rfl ?_
      refine tq_getR C dc_O_look_134 cl_20 fd_O_55 rfl (show 0 < 1 from by omega) rfl ?_
      refine th_iload_n C dc_O_look_137 rfl rfl ?_
      obtain ⟨n21, m21⟩ := th_nat (a := t.toInt) (by omega)
      refine tq_ialdN C dc_O_look_138 rfl (fun _ => rfl) (show 0 < 1 from by omega) rfl m21 (show n21 < 5 from by omega) (fun x20 e20 => ?_)
      have g20 : x20.toInt = (I1 36 0 n21).toInt := by rw [e20]
      exact th_iret C hQ dc_O_look_139 (by decide) (by decide) ⟨_, _, rfl, rfl, hI1, trivial⟩
    · refine th_tableIn (tgt := 140) C dc_O_look_21 (by omega) (by omega) (by rw [w4]; rfl) (by decide) ?_
      refine th_aload_n C dc_O_look_140 rfl rfl ?_
      refine tq_getR C dc_O_look_141 cl_20 fd_O_58 rfl (show 0 < 1 from by omega) rfl ?_
      refine th_iload_n C dc_O_look_144 rfl rfl ?_
      obtain ⟨n23, m23⟩ := th_nat (a := t.toInt) (by omega)
      refine tq_ialdN C dc_O_look_145 rfl (fun _ => rfl) (show 0 < 1 from by omega) rfl m23 (show n23 < 5 from by omega) (fun x22 e22 => ?_)
      have g22 : x22.toInt = (I1 37 0 n23).toInt := by rw [e22]
      exact th_iret C hQ dc_O_look_146 (by decide) (by decide) ⟨_, _, rfl, rfl, hI1, trivial⟩
    · refine th_tableIn (tgt := 147) C dc_O_look_21 (by omega) (by omega) (by rw [w4]; rfl) (by decide) ?_
      refine th_aload_n C dc_O_look_147 rfl rfl ?_
      refine tq_getR C dc_O_look_148 cl_20 fd_O_101 rfl (show 0 < 1 from by omega) rfl ?_
      refine th_iload_n C dc_O_look_151 rfl rfl ?_
      obtain ⟨n25, m25⟩ := th_nat (a := t.toInt) (by omega)
      refine tq_ialdN C dc_O_look_152 rfl (fun _ => rfl) (show 0 < 1 from by omega) rfl m25 (show n25 < 5 from by omega) (fun x24 e24 => ?_)
      have g24 : x24.toInt = (I1 51 0 n25).toInt := by rw [e24]
      have r24 : 0 ≤ x24.toInt ∧ x24.toInt ≤ 5 := by rw [e24]; exact hI1.1 51 0 n25
      exact th_iret C hQ dc_O_look_153 (by decide) (by decide) ⟨_, _, rfl, rfl, hI1, trivial⟩
    · refine th_tableOut (tgt := 154) C dc_O_look_21 w4 (by decide) ?_
      refine th_aload_n C dc_O_look_154 rfl rfl ?_
      refine th_iconst (v := 1) C dc_O_look_155 th_c_1 ?_
      refine tq_callVi C (o_O_refuse l hl I1 ((1 : Int32)) hI1) ok_O_124 cl_20 (show 0 < 1 from by omega) rfl (Nat.le_of_ble_eq_true rfl) dc_O_look_156 rfl (fun x26 I26 p26 => ?_)
      obtain ⟨hI26, p26⟩ := p26
      try simp only [th_l_1] at p26
      exact th_iret C hQ dc_O_look_159 (by decide) (by decide) ⟨_, _, rfl, rfl, hI26, trivial⟩
  · refine th_aload_n C dc_O_look_14 rfl rfl ?_
    refine th_iconst (v := 1) C dc_O_look_15 th_c_1 ?_
    refine tq_callVi C (o_O_refuse l hl I1 ((1 : Int32)) hI1) ok_O_124 cl_20 (show 0 < 1 from by omega) rfl (Nat.le_of_ble_eq_true rfl) dc_O_look_16 rfl (fun x27 I27 p27 => ?_)
    obtain ⟨hI27, p27⟩ := p27
    try simp only [th_l_1] at p27
    exact th_iret C hQ dc_O_look_19 (by decide) (by decide) ⟨_, _, rfl, rfl, hI27, trivial⟩

set_option maxRecDepth 100000 in
set_option maxHeartbeats 4000000 in
theorem o_O_lock (l : Launch) (hl : l.stackTraces = false) {K sl : Int} {Z : th_I} (I : th_I) (m : Int32) (w : Int32) (hI : th_OI K sl Z I) : th_F l yn_O_lock cb_O_lock 3 (some .int) { frames := 1, cells := 0, slots := 0, locals := 22 } [.inr (some (20, 0)), .inl m, .inl w] (th_m I) (th_ri (fun x J => th_OI K sl Z J ∧ (True))) := by
  refine th_of hl (by decide +kernel) (Nat.le_of_ble_eq_true rfl) (fun z C hQ hN => ?_)
  show th_G l z 3 0 [(0, .inr (some (20, 0))), (1, .inl m), (2, .inl w)] [] (th_m I) 0 0
  have hb := hI.2.2.1
  refine th_aload_n C dc_O_lock_0 rfl rfl ?_
  refine th_iconst (v := 0) C dc_O_lock_1 th_c_0 ?_
  refine tq_putI C dc_O_lock_2 cl_20 fd_O_114 rfl (show 0 < 1 from by omega) rfl rfl ?_
  refine th_gen (P := fun J => th_OI K sl Z J ∧ J = th_u I 20 0 34 ((0 : Int32))) ⟨ro_put hI rfl trivial, rfl⟩ (fun I1 hI1 => ?_)
  obtain ⟨hI1, u1⟩ := hI1
  have e1 : (0 : Int32) = I1 20 0 34 := by rw [u1, th_u_eq]
  have g1 : 0 = (I1 20 0 34).toInt := by rw [← e1]; exact th_l_0.symm
  refine th_iload_n C dc_O_lock_5 rfl rfl ?_
  refine th_iconst (v := 0) C dc_O_lock_6 th_c_0 ?_
  refine th_iconst (v := 2) C dc_O_lock_7 th_c_2 ?_
  refine tq_callSp C (o_O_is l hl I1 m ((0 : Int32)) ((2 : Int32))) ok_O_117 rfl (Nat.le_of_ble_eq_true rfl) dc_O_lock_8 rfl (fun x2 p2 => ?_)
  try simp only [th_l_0, th_l_2] at p2
  refine tq_if_eq (tgt := 23) C dc_O_lock_11 (by decide) rfl (fun c3 => ?_) (fun c3 => ?_)
  · refine th_aload_n C dc_O_lock_23 rfl rfl ?_
    refine th_iconst (v := 1) C dc_O_lock_24 th_c_1 ?_
    refine tq_callVi C (o_O_refuse l hl I1 ((1 : Int32)) hI1) ok_O_124 cl_20 (show 0 < 1 from by omega) rfl (Nat.le_of_ble_eq_true rfl) dc_O_lock_25 rfl (fun x4 I4 p4 => ?_)
    obtain ⟨hI4, p4⟩ := p4
    try simp only [th_l_1] at p4
    exact th_iret C hQ dc_O_lock_28 (by decide) (by decide) ⟨_, _, rfl, rfl, hI4, trivial⟩
  · refine th_iload_n C dc_O_lock_14 rfl rfl ?_
    refine th_iconst (v := 0) C dc_O_lock_15 th_c_0 ?_
    refine th_iconst (v := 3) C dc_O_lock_16 th_c_3 ?_
    refine tq_callSp C (o_O_is l hl I1 w ((0 : Int32)) ((3 : Int32))) ok_O_117 rfl (Nat.le_of_ble_eq_true rfl) dc_O_lock_17 rfl (fun x5 p5 => ?_)
    try simp only [th_l_0, th_l_3] at p5
    refine tq_if_ne (tgt := 29) C dc_O_lock_20 (by decide) rfl (fun c6 => ?_) (fun c6 => ?_)
    · refine th_iload_n C dc_O_lock_29 rfl rfl ?_
      refine tq_if_ne (tgt := 42) C dc_O_lock_30 (by decide) rfl (fun c7 => ?_) (fun c7 => ?_)
      · refine th_iload_n C dc_O_lock_42 rfl rfl ?_
        refine th_iconst (v := 1) C dc_O_lock_43 th_c_1 ?_
        refine tq_icmp_ne (tgt := 56) C dc_O_lock_44 (by decide) rfl th_l_1 (fun c8 => ?_) (fun c8 => ?_)
        · refine th_iload_n C dc_O_lock_56 rfl rfl ?_
          refine th_iconst (v := 2) C dc_O_lock_57 th_c_2 ?_
          refine tq_icmp_ne (tgt := 70) C dc_O_lock_58 (by decide) rfl th_l_2 (fun c9 => ?_) (fun c9 => ?_)
          · refine th_aload_n C dc_O_lock_70 rfl rfl ?_
            refine tq_getR C dc_O_lock_71 cl_20 fd_O_95 rfl (show 0 < 1 from by omega) rfl ?_
            refine th_iload_n C dc_O_lock_74 rfl rfl ?_
            obtain ⟨n11, m11⟩ := th_nat (a := m.toInt) (by omega)
            refine tq_ialdN C dc_O_lock_75 rfl (fun _ => rfl) (show 0 < 1 from by omega) rfl m11 (show n11 < 3 from by omega) (fun x10 e10 => ?_)
            have g10 : x10.toInt = (I1 49 0 n11).toInt := by rw [e10]
            have r10 : 0 ≤ x10.toInt ∧ x10.toInt ≤ 5 := by rw [e10]; exact hI1.1 49 0 n11
            exact th_iret C hQ dc_O_lock_76 (by decide) (by decide) ⟨_, _, rfl, rfl, hI1, trivial⟩
          · refine th_aload_n C dc_O_lock_61 rfl rfl ?_
            refine tq_getR C dc_O_lock_62 cl_20 fd_O_89 rfl (show 0 < 1 from by omega) rfl ?_
            refine th_iload_n C dc_O_lock_65 rfl rfl ?_
            obtain ⟨n13, m13⟩ := th_nat (a := m.toInt) (by omega)
            refine tq_ialdN C dc_O_lock_66 rfl (fun _ => rfl) (show 0 < 1 from by omega) rfl m13 (show n13 < 3 from by omega) (fun x12 e12 => ?_)
            have g12 : x12.toInt = (I1 47 0 n13).toInt := by rw [e12]
            have r12 : 0 ≤ x12.toInt ∧ x12.toInt ≤ 5 := by rw [e12]; exact hI1.1 47 0 n13
            refine th_goto (tgt := 76) C dc_O_lock_67 (by decide) ?_
            exact th_iret C hQ dc_O_lock_76 (by decide) (by decide) ⟨_, _, rfl, rfl, hI1, trivial⟩
        · refine th_aload_n C dc_O_lock_47 rfl rfl ?_
          refine tq_getR C dc_O_lock_48 cl_20 fd_O_83 rfl (show 0 < 1 from by omega) rfl ?_
          refine th_iload_n C dc_O_lock_51 rfl rfl ?_
          obtain ⟨n15, m15⟩ := th_nat (a := m.toInt) (by omega)
          refine tq_ialdN C dc_O_lock_52 rfl (fun _ => rfl) (show 0 < 1 from by omega) rfl m15 (show n15 < 3 from by omega) (fun x14 e14 => ?_)
          have g14 : x14.toInt = (I1 45 0 n15).toInt := by rw [e14]
          refine th_goto (tgt := 76) C dc_O_lock_53 (by decide) ?_
          exact th_iret C hQ dc_O_lock_76 (by decide) (by decide) ⟨_, _, rfl, rfl, hI1, trivial⟩
      · refine th_aload_n C dc_O_lock_33 rfl rfl ?_
        refine tq_getR C dc_O_lock_34 cl_20 fd_O_80 rfl (show 0 < 1 from by omega) rfl ?_
        refine th_iload_n C dc_O_lock_37 rfl rfl ?_
        obtain ⟨n17, m17⟩ := th_nat (a := m.toInt) (by omega)
        refine tq_ialdN C dc_O_lock_38 rfl (fun _ => rfl) (show 0 < 1 from by omega) rfl m17 (show n17 < 3 from by omega) (fun x16 e16 => ?_)
        have g16 : x16.toInt = (I1 44 0 n17).toInt := by rw [e16]
        refine th_goto (tgt := 76) C dc_O_lock_39 (by decide) ?_
        exact th_iret C hQ dc_O_lock_76 (by decide) (by decide) ⟨_, _, rfl, rfl, hI1, trivial⟩
    · refine th_aload_n C dc_O_lock_23 rfl rfl ?_
      refine th_iconst (v := 1) C dc_O_lock_24 th_c_1 ?_
      refine tq_callVi C (o_O_refuse l hl I1 ((1 : Int32)) hI1) ok_O_124 cl_20 (show 0 < 1 from by omega) rfl (Nat.le_of_ble_eq_true rfl) dc_O_lock_25 rfl (fun x18 I18 p18 => ?_)
      obtain ⟨hI18, p18⟩ := p18
      try simp only [th_l_1] at p18
      exact th_iret C hQ dc_O_lock_28 (by decide) (by decide) ⟨_, _, rfl, rfl, hI18, trivial⟩

set_option maxRecDepth 100000 in
set_option maxHeartbeats 4000000 in
theorem o_O_said (l : Launch) (hl : l.stackTraces = false) {K sl : Int} {Z : th_I} (I : th_I) (k : Int32) (hI : th_OI K sl Z I) : th_F l yn_O_said cb_O_said 2 (some .int) { frames := 1, cells := 0, slots := 0, locals := 22 } [.inr (some (20, 0)), .inl k] (th_m I) (th_ri (fun x J => th_OI K sl Z J ∧ (True))) := by
  refine th_of hl (by decide +kernel) (Nat.le_of_ble_eq_true rfl) (fun z C hQ hN => ?_)
  show th_G l z 2 0 [(0, .inr (some (20, 0))), (1, .inl k)] [] (th_m I) 0 0
  have hb := hI.2.2.1
  refine th_aload_n C dc_O_said_0 rfl rfl ?_
  refine th_iconst (v := 0) C dc_O_said_1 th_c_0 ?_
  refine tq_putI C dc_O_said_2 cl_20 fd_O_114 rfl (show 0 < 1 from by omega) rfl rfl ?_
  refine th_gen (P := fun J => th_OI K sl Z J ∧ J = th_u I 20 0 34 ((0 : Int32))) ⟨ro_put hI rfl trivial, rfl⟩ (fun I1 hI1 => ?_)
  obtain ⟨hI1, u1⟩ := hI1
  have e1 : (0 : Int32) = I1 20 0 34 := by rw [u1, th_u_eq]
  have g1 : 0 = (I1 20 0 34).toInt := by rw [← e1]; exact th_l_0.symm
  refine th_iload_n C dc_O_said_5 rfl rfl ?_
  refine th_iconst (v := 0) C dc_O_said_6 th_c_0 ?_
  refine th_bipush (v := 39) C dc_O_said_7 th_b_39 ?_
  refine tq_callSp C (o_O_is l hl I1 k ((0 : Int32)) ((39 : Int32))) ok_O_117 rfl (Nat.le_of_ble_eq_true rfl) dc_O_said_9 rfl (fun x2 p2 => ?_)
  try simp only [th_l_0, th_l_39] at p2
  refine tq_if_eq (tgt := 34) C dc_O_said_12 (by decide) rfl (fun c3 => ?_) (fun c3 => ?_)
  · refine th_aload_n C dc_O_said_34 rfl rfl ?_
    refine th_iconst (v := 1) C dc_O_said_35 th_c_1 ?_
    refine tq_callVi C (o_O_refuse l hl I1 ((1 : Int32)) hI1) ok_O_124 cl_20 (show 0 < 1 from by omega) rfl (Nat.le_of_ble_eq_true rfl) dc_O_said_36 rfl (fun x4 I4 p4 => ?_)
    obtain ⟨hI4, p4⟩ := p4
    try simp only [th_l_1] at p4
    exact th_iret C hQ dc_O_said_39 (by decide) (by decide) ⟨_, _, rfl, rfl, hI4, trivial⟩
  · refine th_iload_n C dc_O_said_15 rfl rfl ?_
    refine th_aload_n C dc_O_said_16 rfl rfl ?_
    refine tq_getR C dc_O_said_17 cl_20 fd_O_107 rfl (show 0 < 1 from by omega) rfl ?_
    refine th_iconst (v := 0) C dc_O_said_20 th_c_0 ?_
    refine tq_ialdN C dc_O_said_21 rfl (fun _ => rfl) (show 0 < 1 from by omega) th_l_0 (by decide) (show 0 < 8 from by omega) (fun x5 e5 => ?_)
    have g5 : x5.toInt = (I1 53 0 0).toInt := by rw [e5]
    have r5 : 0 ≤ x5.toInt ∧ x5.toInt ≤ K := by rw [e5]; exact hI1.1 53 0 0
    refine tq_icmp_ge (tgt := 34) C dc_O_said_22 (by decide) rfl rfl (fun c6 => ?_) (fun c6 => ?_)
    · refine th_aload_n C dc_O_said_34 rfl rfl ?_
      refine th_iconst (v := 1) C dc_O_said_35 th_c_1 ?_
      refine tq_callVi C (o_O_refuse l hl I1 ((1 : Int32)) hI1) ok_O_124 cl_20 (show 0 < 1 from by omega) rfl (Nat.le_of_ble_eq_true rfl) dc_O_said_36 rfl (fun x7 I7 p7 => ?_)
      obtain ⟨hI7, p7⟩ := p7
      try simp only [th_l_1] at p7
      exact th_iret C hQ dc_O_said_39 (by decide) (by decide) ⟨_, _, rfl, rfl, hI7, trivial⟩
    · refine th_aload_n C dc_O_said_25 rfl rfl ?_
      refine tq_getR C dc_O_said_26 cl_20 fd_O_104 rfl (show 0 < 1 from by omega) rfl ?_
      refine th_iload_n C dc_O_said_29 rfl rfl ?_
      obtain ⟨n9, m9⟩ := th_nat (a := k.toInt) (by omega)
      refine tq_ialdN C dc_O_said_30 rfl (fun _ => rfl) (show 0 < 1 from by omega) rfl m9 (show n9 < 40 from by omega) (fun x8 e8 => ?_)
      have g8 : x8.toInt = (I1 52 0 n9).toInt := by rw [e8]
      refine th_goto (tgt := 39) C dc_O_said_31 (by decide) ?_
      exact th_iret C hQ dc_O_said_39 (by decide) (by decide) ⟨_, _, rfl, rfl, hI1, trivial⟩
end
section
set_option maxRecDepth 100000 in
set_option maxHeartbeats 4000000 in
theorem o_O_slice (l : Launch) (hl : l.stackTraces = false) {K sl : Int} {Z : th_I} (I : th_I) (n : Int32) (hI : th_OI K sl Z I) : th_F l yn_O_slice cb_O_slice 3 (some .int) { frames := 1, cells := 0, slots := 0, locals := 22 } [.inr (some (20, 0)), .inl n] (th_m I) (th_ri (fun x J => (th_OI K n.toInt Z J ∧ (1 ≤ n.toInt ∧ n.toInt ≤ 20) ∧ x.toInt = sl ∧ (J 20 0 34).toInt = 0) ∨ (th_OI K sl Z J ∧ ¬ (1 ≤ n.toInt ∧ n.toInt ≤ 20) ∧ (J 20 0 34).toInt = 1))) := by
  refine th_of hl (by decide +kernel) (Nat.le_of_ble_eq_true rfl) (fun z C hQ hN => ?_)
  show th_G l z 3 0 [(0, .inr (some (20, 0))), (1, .inl n)] [] (th_m I) 0 0
  have hb := hI.2.2.1
  refine th_aload_n C dc_O_slice_0 rfl rfl ?_
  refine th_iconst (v := 0) C dc_O_slice_1 th_c_0 ?_
  refine tq_putI C dc_O_slice_2 cl_20 fd_O_114 rfl (show 0 < 1 from by omega) rfl rfl ?_
  refine th_gen (P := fun J => th_OI K sl Z J ∧ J = th_u I 20 0 34 ((0 : Int32))) ⟨ro_put hI rfl trivial, rfl⟩ (fun I1 hI1 => ?_)
  obtain ⟨hI1, u1⟩ := hI1
  have e1 : (0 : Int32) = I1 20 0 34 := by rw [u1, th_u_eq]
  have g1 : 0 = (I1 20 0 34).toInt := by rw [← e1]; exact th_l_0.symm
  refine th_iload_n C dc_O_slice_5 rfl rfl ?_
  refine th_iconst (v := 1) C dc_O_slice_6 th_c_1 ?_
  refine th_bipush (v := 20) C dc_O_slice_7 th_b_20 ?_
  refine tq_callSp C (o_O_is l hl I1 n ((1 : Int32)) ((20 : Int32))) ok_O_117 rfl (Nat.le_of_ble_eq_true rfl) dc_O_slice_9 rfl (fun x2 p2 => ?_)
  try simp only [th_l_1, th_l_20] at p2
  refine tq_if_ne (tgt := 21) C dc_O_slice_12 (by decide) rfl (fun c3 => ?_) (fun c3 => ?_)
  · refine th_aload_n C dc_O_slice_21 rfl rfl ?_
    refine tq_getI C dc_O_slice_22 cl_20 fd_O_110 rfl (show 0 < 1 from by omega) (fun x4 e4 => ?_)
    have g4 : x4.toInt = (I1 20 0 33).toInt := by rw [e4]
    have r4 : x4.toInt = sl ∨ 0 < 0 := by rw [e4]; exact hI1.1 20 0 33
    refine th_istore_n (lv' := [(0, .inr (some (20, 0))), (1, .inl n), (2, .inl x4)]) C dc_O_slice_25 rfl (by decide) rfl ?_
    refine th_aload_n C dc_O_slice_26 rfl rfl ?_
    refine th_iload_n C dc_O_slice_27 rfl rfl ?_
    refine tq_putI C dc_O_slice_28 cl_20 fd_O_110 rfl (show 0 < 1 from by omega) rfl rfl ?_
    refine th_gen (P := fun J => th_OI K n.toInt Z J ∧ J = th_u I1 20 0 33 n) ⟨ro_slice hI1 (by omega), rfl⟩ (fun I5 hI5 => ?_)
    obtain ⟨hI5, u5⟩ := hI5
    have e6 : (0 : Int32) = I5 20 0 34 := by rw [u5, th_u_slot (by decide)]; exact e1
    have g6 : (0 : Int32).toInt = (I5 20 0 34).toInt := by rw [← e6]
    have e5 : n = I5 20 0 33 := by rw [u5, th_u_eq]
    have g5 : n.toInt = (I5 20 0 33).toInt := by rw [← e5]
    refine th_iload_n C dc_O_slice_31 rfl rfl ?_
    exact th_iret C hQ dc_O_slice_32 (by decide) (by decide) ⟨_, _, rfl, rfl, Or.inl ⟨hI5, by omega, by omega, by have := th_l_0; omega⟩⟩
  · refine th_aload_n C dc_O_slice_15 rfl rfl ?_
    refine th_iconst (v := 1) C dc_O_slice_16 th_c_1 ?_
    refine tq_callVi C (o_O_refuse l hl I1 ((1 : Int32)) hI1) ok_O_124 cl_20 (show 0 < 1 from by omega) rfl (Nat.le_of_ble_eq_true rfl) dc_O_slice_17 rfl (fun x7 I7 p7 => ?_)
    obtain ⟨hI7, p7⟩ := p7
    try simp only [th_l_1] at p7
    exact th_iret C hQ dc_O_slice_20 (by decide) (by decide) ⟨_, _, rfl, rfl, Or.inr ⟨hI7, by omega, by omega⟩⟩

set_option maxRecDepth 100000 in
set_option maxHeartbeats 4000000 in
theorem o_O_count (l : Launch) (hl : l.stackTraces = false) {K sl : Int} {Z : th_I} (I : th_I) (w : Int32) (hI : th_OI K sl Z I) : th_F l yn_O_count cb_O_count 4 (some .int) { frames := 1, cells := 0, slots := 0, locals := 22 } [.inr (some (20, 0)), .inl w] (th_m I) (th_ri (fun x J => th_OI K sl Z J ∧ (True))) := by
  refine th_of hl (by decide +kernel) (Nat.le_of_ble_eq_true rfl) (fun z C hQ hN => ?_)
  show th_G l z 4 0 [(0, .inr (some (20, 0))), (1, .inl w)] [] (th_m I) 0 0
  have hb := hI.2.2.1
  refine th_aload_n C dc_O_count_0 rfl rfl ?_
  refine th_iconst (v := 0) C dc_O_count_1 th_c_0 ?_
  refine tq_putI C dc_O_count_2 cl_20 fd_O_114 rfl (show 0 < 1 from by omega) rfl rfl ?_
  refine th_gen (P := fun J => th_OI K sl Z J ∧ J = th_u I 20 0 34 ((0 : Int32))) ⟨ro_put hI rfl trivial, rfl⟩ (fun I1 hI1 => ?_)
  obtain ⟨hI1, u1⟩ := hI1
  have e1 : (0 : Int32) = I1 20 0 34 := by rw [u1, th_u_eq]
  have g1 : 0 = (I1 20 0 34).toInt := by rw [← e1]; exact th_l_0.symm
  refine th_iload_n C dc_O_count_5 rfl rfl ?_
  refine th_iconst (v := 0) C dc_O_count_6 th_c_0 ?_
  refine th_bipush (v := 7) C dc_O_count_7 th_b_7 ?_
  refine tq_callSp C (o_O_is l hl I1 w ((0 : Int32)) ((7 : Int32))) ok_O_117 rfl (Nat.le_of_ble_eq_true rfl) dc_O_count_9 rfl (fun x2 p2 => ?_)
  try simp only [th_l_0, th_l_7] at p2
  refine tq_if_ne (tgt := 21) C dc_O_count_12 (by decide) rfl (fun c3 => ?_) (fun c3 => ?_)
  · refine th_iload_n C dc_O_count_21 rfl rfl ?_
    refine th_iconst (v := 3) C dc_O_count_22 th_c_3 ?_
    refine tq_icmp_eq (tgt := 38) C dc_O_count_23 (by decide) rfl th_l_3 (fun c4 => ?_) (fun c4 => ?_)
    · refine th_iconst (v := 0) C dc_O_count_38 th_c_0 ?_
      refine th_istore_n (lv' := [(0, .inr (some (20, 0))), (1, .inl w), (2, .inl ((0 : Int32)))]) C dc_O_count_39 rfl (by decide) rfl ?_
      refine th_iconst (v := 0) C dc_O_count_40 th_c_0 ?_
      refine th_istore_n (lv' := [(0, .inr (some (20, 0))), (1, .inl w), (2, .inl ((0 : Int32))), (3, .inl ((0 : Int32)))]) C dc_O_count_41 rfl (by decide) rfl ?_
      have L42 : ∀ (N : Nat) (a : Int32) (k : Int32), (0 ≤ k.toInt ∧ k.toInt ≤ 5) → (5 - k.toInt).toNat < N → th_G l z 4 42 [(0, .inr (some (20, 0))), (1, .inl w), (2, .inl a), (3, .inl k)] [] (th_m I1) 0 0 := by
        intro N
        induction N with
        | zero => intro a k h1 hm; exact absurd hm (Nat.not_lt_zero _)
        | succ N ih =>
          intro a k h1 hm
          refine th_iload_n C dc_O_count_42 rfl rfl ?_
          refine th_iconst (v := 5) C dc_O_count_43 th_c_5 ?_
          refine tq_icmp_ge (tgt := 82) C dc_O_count_44 (by decide) rfl th_l_5 (fun c6 => ?_) (fun c6 => ?_)
          · refine th_iload_n C dc_O_count_82 rfl rfl ?_
            exact th_iret C hQ dc_O_count_83 (by decide) (by decide) ⟨_, _, rfl, rfl, hI1, trivial⟩
          · refine th_iload_n C dc_O_count_47 rfl rfl ?_
            refine th_iconst (v := 3) C dc_O_count_48 th_c_3 ?_
            refine tq_icmp_ne (tgt := 63) C dc_O_count_49 (by decide) rfl th_l_3 (fun c7 => ?_) (fun c7 => ?_)
            · refine th_aload_n C dc_O_count_63 rfl rfl ?_
              refine tq_getR C dc_O_count_64 cl_20 fd_O_43 rfl (show 0 < 1 from by omega) rfl ?_
              refine th_iload_n C dc_O_count_67 rfl rfl ?_
              obtain ⟨n9, m9⟩ := th_nat (a := k.toInt) (by omega)
              refine tq_ialdN C dc_O_count_68 rfl (fun _ => rfl) (show 0 < 1 from by omega) rfl m9 (show n9 < 5 from by omega) (fun x8 e8 => ?_)
              have g8 : x8.toInt = (I1 32 0 n9).toInt := by rw [e8]
              refine th_iconst (v := 1) C dc_O_count_69 th_c_1 ?_
              refine tq_icmp_ne (tgt := 76) C dc_O_count_70 (by decide) rfl th_l_1 (fun c10 => ?_) (fun c10 => ?_)
              · refine tq_iinc (lv' := fun rr => [(0, .inr (some (20, 0))), (1, .inl w), (2, .inl a), (3, .inl rr)]) C dc_O_count_76 rfl (by decide) th_c_1 rfl th_l_1 (fun rr => rfl) (fun x11 e11 a11 => ?_)
                refine th_goto (tgt := 42) C dc_O_count_79 (by decide) ?_
                exact ih a x11 (by omega) (by omega)
              · refine tq_iinc (lv' := fun rr => [(0, .inr (some (20, 0))), (1, .inl w), (2, .inl rr), (3, .inl k)]) C dc_O_count_73 rfl (by decide) th_c_1 rfl th_l_1 (fun rr => rfl) (fun x12 e12 a12 => ?_)
                refine tq_iinc (lv' := fun rr => [(0, .inr (some (20, 0))), (1, .inl w), (2, .inl x12), (3, .inl rr)]) C dc_O_count_76 rfl (by decide) th_c_1 rfl th_l_1 (fun rr => rfl) (fun x13 e13 a13 => ?_)
                refine th_goto (tgt := 42) C dc_O_count_79 (by decide) ?_
                exact ih x12 x13 (by omega) (by omega)
            · refine th_aload_n C dc_O_count_52 rfl rfl ?_
              refine th_iload_n C dc_O_count_53 rfl rfl ?_
              obtain ⟨n14, m14⟩ := th_nat (a := k.toInt) (by omega)
              refine tq_callVp C (o_O_alive l hl I1 k n14 hI1 m14 (by omega)) ok_O_128 cl_20 (show 0 < 1 from by omega) rfl (Nat.le_of_ble_eq_true rfl) dc_O_count_54 rfl (fun x15 p15 => ?_)
              refine tq_if_eq (tgt := 76) C dc_O_count_57 (by decide) rfl (fun c16 => ?_) (fun c16 => ?_)
              · refine tq_iinc (lv' := fun rr => [(0, .inr (some (20, 0))), (1, .inl w), (2, .inl a), (3, .inl rr)]) C dc_O_count_76 rfl (by decide) th_c_1 rfl th_l_1 (fun rr => rfl) (fun x17 e17 a17 => ?_)
                refine th_goto (tgt := 42) C dc_O_count_79 (by decide) ?_
                exact ih a x17 (by omega) (by omega)
              · refine th_goto (tgt := 73) C dc_O_count_60 (by decide) ?_
                refine tq_iinc (lv' := fun rr => [(0, .inr (some (20, 0))), (1, .inl w), (2, .inl rr), (3, .inl k)]) C dc_O_count_73 rfl (by decide) th_c_1 rfl th_l_1 (fun rr => rfl) (fun x18 e18 a18 => ?_)
                refine tq_iinc (lv' := fun rr => [(0, .inr (some (20, 0))), (1, .inl w), (2, .inl x18), (3, .inl rr)]) C dc_O_count_76 rfl (by decide) th_c_1 rfl th_l_1 (fun rr => rfl) (fun x19 e19 a19 => ?_)
                refine th_goto (tgt := 42) C dc_O_count_79 (by decide) ?_
                exact ih x18 x19 (by omega) (by omega)
      exact L42 _ ((0 : Int32)) ((0 : Int32)) (by have := th_l_0; omega) (Nat.lt_succ_self _)
    · refine th_iload_n C dc_O_count_26 rfl rfl ?_
      refine th_iconst (v := 4) C dc_O_count_27 th_c_4 ?_
      refine tq_icmp_eq (tgt := 38) C dc_O_count_28 (by decide) rfl th_l_4 (fun c20 => ?_) (fun c20 => ?_)
      · refine th_iconst (v := 0) C dc_O_count_38 th_c_0 ?_
        refine th_istore_n (lv' := [(0, .inr (some (20, 0))), (1, .inl w), (2, .inl ((0 : Int32)))]) C dc_O_count_39 rfl (by decide) rfl ?_
        refine th_iconst (v := 0) C dc_O_count_40 th_c_0 ?_
        refine th_istore_n (lv' := [(0, .inr (some (20, 0))), (1, .inl w), (2, .inl ((0 : Int32))), (3, .inl ((0 : Int32)))]) C dc_O_count_41 rfl (by decide) rfl ?_
        have L42 : ∀ (N : Nat) (a : Int32) (k : Int32), (0 ≤ k.toInt ∧ k.toInt ≤ 5) → (5 - k.toInt).toNat < N → th_G l z 4 42 [(0, .inr (some (20, 0))), (1, .inl w), (2, .inl a), (3, .inl k)] [] (th_m I1) 0 0 := by
          intro N
          induction N with
          | zero => intro a k h1 hm; exact absurd hm (Nat.not_lt_zero _)
          | succ N ih =>
            intro a k h1 hm
            refine th_iload_n C dc_O_count_42 rfl rfl ?_
            refine th_iconst (v := 5) C dc_O_count_43 th_c_5 ?_
            refine tq_icmp_ge (tgt := 82) C dc_O_count_44 (by decide) rfl th_l_5 (fun c22 => ?_) (fun c22 => ?_)
            · refine th_iload_n C dc_O_count_82 rfl rfl ?_
              exact th_iret C hQ dc_O_count_83 (by decide) (by decide) ⟨_, _, rfl, rfl, hI1, trivial⟩
            · refine th_iload_n C dc_O_count_47 rfl rfl ?_
              refine th_iconst (v := 3) C dc_O_count_48 th_c_3 ?_
              refine tq_icmp_ne (tgt := 63) C dc_O_count_49 (by decide) rfl th_l_3 (fun c23 => ?_) (fun c23 => ?_)
              · refine th_aload_n C dc_O_count_63 rfl rfl ?_
                refine tq_getR C dc_O_count_64 cl_20 fd_O_43 rfl (show 0 < 1 from by omega) rfl ?_
                refine th_iload_n C dc_O_count_67 rfl rfl ?_
                obtain ⟨n25, m25⟩ := th_nat (a := k.toInt) (by omega)
                refine tq_ialdN C dc_O_count_68 rfl (fun _ => rfl) (show 0 < 1 from by omega) rfl m25 (show n25 < 5 from by omega) (fun x24 e24 => ?_)
                have g24 : x24.toInt = (I1 32 0 n25).toInt := by rw [e24]
                refine th_iconst (v := 1) C dc_O_count_69 th_c_1 ?_
                refine tq_icmp_ne (tgt := 76) C dc_O_count_70 (by decide) rfl th_l_1 (fun c26 => ?_) (fun c26 => ?_)
                · refine tq_iinc (lv' := fun rr => [(0, .inr (some (20, 0))), (1, .inl w), (2, .inl a), (3, .inl rr)]) C dc_O_count_76 rfl (by decide) th_c_1 rfl th_l_1 (fun rr => rfl) (fun x27 e27 a27 => ?_)
                  refine th_goto (tgt := 42) C dc_O_count_79 (by decide) ?_
                  exact ih a x27 (by omega) (by omega)
                · refine tq_iinc (lv' := fun rr => [(0, .inr (some (20, 0))), (1, .inl w), (2, .inl rr), (3, .inl k)]) C dc_O_count_73 rfl (by decide) th_c_1 rfl th_l_1 (fun rr => rfl) (fun x28 e28 a28 => ?_)
                  refine tq_iinc (lv' := fun rr => [(0, .inr (some (20, 0))), (1, .inl w), (2, .inl x28), (3, .inl rr)]) C dc_O_count_76 rfl (by decide) th_c_1 rfl th_l_1 (fun rr => rfl) (fun x29 e29 a29 => ?_)
                  refine th_goto (tgt := 42) C dc_O_count_79 (by decide) ?_
                  exact ih x28 x29 (by omega) (by omega)
              · refine th_aload_n C dc_O_count_52 rfl rfl ?_
                refine th_iload_n C dc_O_count_53 rfl rfl ?_
                obtain ⟨n30, m30⟩ := th_nat (a := k.toInt) (by omega)
                refine tq_callVp C (o_O_alive l hl I1 k n30 hI1 m30 (by omega)) ok_O_128 cl_20 (show 0 < 1 from by omega) rfl (Nat.le_of_ble_eq_true rfl) dc_O_count_54 rfl (fun x31 p31 => ?_)
                refine tq_if_eq (tgt := 76) C dc_O_count_57 (by decide) rfl (fun c32 => ?_) (fun c32 => ?_)
                · refine tq_iinc (lv' := fun rr => [(0, .inr (some (20, 0))), (1, .inl w), (2, .inl a), (3, .inl rr)]) C dc_O_count_76 rfl (by decide) th_c_1 rfl th_l_1 (fun rr => rfl) (fun x33 e33 a33 => ?_)
                  refine th_goto (tgt := 42) C dc_O_count_79 (by decide) ?_
                  exact ih a x33 (by omega) (by omega)
                · refine th_goto (tgt := 73) C dc_O_count_60 (by decide) ?_
                  refine tq_iinc (lv' := fun rr => [(0, .inr (some (20, 0))), (1, .inl w), (2, .inl rr), (3, .inl k)]) C dc_O_count_73 rfl (by decide) th_c_1 rfl th_l_1 (fun rr => rfl) (fun x34 e34 a34 => ?_)
                  refine tq_iinc (lv' := fun rr => [(0, .inr (some (20, 0))), (1, .inl w), (2, .inl x34), (3, .inl rr)]) C dc_O_count_76 rfl (by decide) th_c_1 rfl th_l_1 (fun rr => rfl) (fun x35 e35 a35 => ?_)
                  refine th_goto (tgt := 42) C dc_O_count_79 (by decide) ?_
                  exact ih x34 x35 (by omega) (by omega)
        exact L42 _ ((0 : Int32)) ((0 : Int32)) (by have := th_l_0; omega) (Nat.lt_succ_self _)
      · refine th_aload_n C dc_O_count_31 rfl rfl ?_
        refine tq_getR C dc_O_count_32 cl_20 fd_O_107 rfl (show 0 < 1 from by omega) rfl ?_
        refine th_iload_n C dc_O_count_35 rfl rfl ?_
        obtain ⟨n37, m37⟩ := th_nat (a := w.toInt) (by omega)
        refine tq_ialdN C dc_O_count_36 rfl (fun _ => rfl) (show 0 < 1 from by omega) rfl m37 (show n37 < 8 from by omega) (fun x36 e36 => ?_)
        have g36 : x36.toInt = (I1 53 0 n37).toInt := by rw [e36]
        exact th_iret C hQ dc_O_count_37 (by decide) (by decide) ⟨_, _, rfl, rfl, hI1, trivial⟩
  · refine th_aload_n C dc_O_count_15 rfl rfl ?_
    refine th_iconst (v := 1) C dc_O_count_16 th_c_1 ?_
    refine tq_callVi C (o_O_refuse l hl I1 ((1 : Int32)) hI1) ok_O_124 cl_20 (show 0 < 1 from by omega) rfl (Nat.le_of_ble_eq_true rfl) dc_O_count_17 rfl (fun x38 I38 p38 => ?_)
    obtain ⟨hI38, p38⟩ := p38
    try simp only [th_l_1] at p38
    exact th_iret C hQ dc_O_count_20 (by decide) (by decide) ⟨_, _, rfl, rfl, hI38, trivial⟩

set_option maxRecDepth 100000 in
set_option maxHeartbeats 4000000 in
theorem o_O_add (l : Launch) (hl : l.stackTraces = false) {K sl : Int} {Z : th_I} (I : th_I) (t : Int32) (o : Int32) (a : Int32) (b : Int32) (hI : th_OI K sl Z I) : th_F l yn_O_add cb_O_add 6 (some .int) { frames := 2, cells := 0, slots := 0, locals := 44 } [.inr (some (20, 0)), .inl t, .inl o, .inl a, .inl b] (th_m I) (th_ri (fun x J => th_OI K sl Z J ∧ (True))) := by
  refine th_of hl (by decide +kernel) (Nat.le_of_ble_eq_true rfl) (fun z C hQ hN => ?_)
  show th_G l z 6 0 [(0, .inr (some (20, 0))), (1, .inl t), (2, .inl o), (3, .inl a), (4, .inl b)] [] (th_m I) 0 0
  have hb := hI.2.2.1
  refine th_aload_n C dc_O_add_0 rfl rfl ?_
  refine th_iconst (v := 0) C dc_O_add_1 th_c_0 ?_
  refine tq_putI C dc_O_add_2 cl_20 fd_O_114 rfl (show 0 < 1 from by omega) rfl rfl ?_
  refine th_gen (P := fun J => th_OI K sl Z J ∧ J = th_u I 20 0 34 ((0 : Int32))) ⟨ro_put hI rfl trivial, rfl⟩ (fun I1 hI1 => ?_)
  obtain ⟨hI1, u1⟩ := hI1
  have e1 : (0 : Int32) = I1 20 0 34 := by rw [u1, th_u_eq]
  have g1 : 0 = (I1 20 0 34).toInt := by rw [← e1]; exact th_l_0.symm
  refine th_iload_n C dc_O_add_5 rfl rfl ?_
  refine th_iconst (v := 0) C dc_O_add_6 th_c_0 ?_
  refine th_iconst (v := 4) C dc_O_add_7 th_c_4 ?_
  refine tq_callSp C (o_O_is l hl I1 t ((0 : Int32)) ((4 : Int32))) ok_O_117 rfl (Nat.le_of_ble_eq_true rfl) dc_O_add_8 rfl (fun x2 p2 => ?_)
  try simp only [th_l_0, th_l_4] at p2
  refine tq_if_eq (tgt := 24) C dc_O_add_11 (by decide) rfl (fun c3 => ?_) (fun c3 => ?_)
  · refine th_aload_n C dc_O_add_24 rfl rfl ?_
    refine th_iconst (v := 1) C dc_O_add_25 th_c_1 ?_
    refine tq_callVi C (o_O_refuse l hl I1 ((1 : Int32)) hI1) ok_O_124 cl_20 (show 0 < 1 from by omega) rfl (Nat.le_of_ble_eq_true rfl) dc_O_add_26 rfl (fun x4 I4 p4 => ?_)
    obtain ⟨hI4, p4⟩ := p4
    try simp only [th_l_1] at p4
    exact th_iret C hQ dc_O_add_29 (by decide) (by decide) ⟨_, _, rfl, rfl, hI4, trivial⟩
  · refine th_iload_n C dc_O_add_14 rfl rfl ?_
    refine th_iload_n C dc_O_add_15 rfl rfl ?_
    refine th_iload C dc_O_add_16 rfl ?_
    refine tq_callSp C (o_O_fits l hl I1 o a b) ok_O_121 rfl (Nat.le_of_ble_eq_true rfl) dc_O_add_18 rfl (fun x5 p5 => ?_)
    refine tq_if_ne (tgt := 30) C dc_O_add_21 (by decide) rfl (fun c6 => ?_) (fun c6 => ?_)
    · refine th_aload_n C dc_O_add_30 rfl rfl ?_
      refine th_iload_n C dc_O_add_31 rfl rfl ?_
      obtain ⟨n7, m7⟩ := th_nat (a := t.toInt) (by omega)
      refine tq_callVp C (o_O_alive l hl I1 t n7 hI1 m7 (by omega)) ok_O_128 cl_20 (show 0 < 1 from by omega) rfl (Nat.le_of_ble_eq_true rfl) dc_O_add_32 rfl (fun x8 p8 => ?_)
      refine tq_if_eq (tgt := 44) C dc_O_add_35 (by decide) rfl (fun c9 => ?_) (fun c9 => ?_)
      · refine th_aload_n C dc_O_add_44 rfl rfl ?_
        refine tq_getR C dc_O_add_45 cl_20 fd_O_19 rfl (show 0 < 1 from by omega) rfl ?_
        refine th_iload_n C dc_O_add_48 rfl rfl ?_
        refine tq_ialdN C dc_O_add_49 rfl (fun _ => rfl) (show 0 < 1 from by omega) rfl m7 (show n7 < 5 from by omega) (fun x10 e10 => ?_)
        have g10 : x10.toInt = (I1 24 0 n7).toInt := by rw [e10]
        have r10 : 0 ≤ x10.toInt ∧ x10.toInt ≤ 24 := by rw [e10]; exact hI1.1 24 0 n7
        refine th_bipush (v := 24) C dc_O_add_50 th_b_24 ?_
        refine tq_icmp_ne (tgt := 61) C dc_O_add_52 (by decide) rfl th_l_24 (fun c11 => ?_) (fun c11 => ?_)
        · refine th_bipush (v := 24) C dc_O_add_61 th_b_24 ?_
          refine th_iload_n C dc_O_add_63 rfl rfl ?_
          refine tq_imul C dc_O_add_64 th_l_24 rfl (fun x12 e12 a12 => ?_)
          refine th_aload_n C dc_O_add_65 rfl rfl ?_
          refine tq_getR C dc_O_add_66 cl_20 fd_O_19 rfl (show 0 < 1 from by omega) rfl ?_
          refine th_iload_n C dc_O_add_69 rfl rfl ?_
          refine tq_ialdE C dc_O_add_70 rfl (fun _ => rfl) (show 0 < 1 from by omega) rfl m7 (show n7 < 5 from by omega) e10 ?_
          refine tq_iadd C dc_O_add_71 rfl rfl (fun x14 e14 a14 => ?_)
          refine th_istore (lv' := [(0, .inr (some (20, 0))), (1, .inl t), (2, .inl o), (3, .inl a), (4, .inl b), (5, .inl x14)]) C dc_O_add_72 (by decide) rfl ?_
          refine th_aload_n C dc_O_add_74 rfl rfl ?_
          refine tq_getR C dc_O_add_75 cl_20 fd_O_7 rfl (show 0 < 1 from by omega) rfl ?_
          refine th_iload C dc_O_add_78 rfl ?_
          refine th_iload_n C dc_O_add_80 rfl rfl ?_
          obtain ⟨n15, m15⟩ := th_nat (a := x14.toInt) (by omega)
          refine tq_iastN C dc_O_add_81 rfl (fun _ => rfl) (show 0 < 1 from by omega) rfl m15 (show n15 < 120 from by omega) ?_
          refine th_gen (P := fun J => J = th_u I1 21 0 n15 o) rfl (fun I16 u16 => ?_)
          have e17 : (0 : Int32) = I16 20 0 34 := by rw [u16, th_u_tag (by decide)]; exact e1
          have g17 : (0 : Int32).toInt = (I16 20 0 34).toInt := by rw [← e17]
          have e18 : x10 = I16 24 0 n7 := by rw [u16, th_u_tag (by decide)]; exact e10
          have g18 : x10.toInt = (I16 24 0 n7).toInt := by rw [← e18]
          have e16 : o = I16 21 0 n15 := by rw [u16, th_u_eq]
          have g16 : o.toInt = (I16 21 0 n15).toInt := by rw [← e16]
          refine th_aload_n C dc_O_add_82 rfl rfl ?_
          refine tq_getR C dc_O_add_83 cl_20 fd_O_13 rfl (show 0 < 1 from by omega) rfl ?_
          refine th_iload C dc_O_add_86 rfl ?_
          refine th_iload_n C dc_O_add_88 rfl rfl ?_
          refine tq_iastN C dc_O_add_89 rfl (fun _ => rfl) (show 0 < 1 from by omega) rfl m15 (show n15 < 120 from by omega) ?_
          refine th_gen (P := fun J => J = th_u I16 22 0 n15 a) rfl (fun I19 u19 => ?_)
          have e20 : (0 : Int32) = I19 20 0 34 := by rw [u19, th_u_tag (by decide)]; exact e17
          have g20 : (0 : Int32).toInt = (I19 20 0 34).toInt := by rw [← e20]
          have e21 : x10 = I19 24 0 n7 := by rw [u19, th_u_tag (by decide)]; exact e18
          have g21 : x10.toInt = (I19 24 0 n7).toInt := by rw [← e21]
          have e22 : o = I19 21 0 n15 := by rw [u19, th_u_tag (by decide)]; exact e16
          have g22 : o.toInt = (I19 21 0 n15).toInt := by rw [← e22]
          have e19 : a = I19 22 0 n15 := by rw [u19, th_u_eq]
          have g19 : a.toInt = (I19 22 0 n15).toInt := by rw [← e19]
          refine th_aload_n C dc_O_add_90 rfl rfl ?_
          refine tq_getR C dc_O_add_91 cl_20 fd_O_16 rfl (show 0 < 1 from by omega) rfl ?_
          refine th_iload C dc_O_add_94 rfl ?_
          refine th_iload C dc_O_add_96 rfl ?_
          refine tq_iastN C dc_O_add_98 rfl (fun _ => rfl) (show 0 < 1 from by omega) rfl m15 (show n15 < 120 from by omega) ?_
          refine th_gen (P := fun J => J = th_u I19 23 0 n15 b) rfl (fun I23 u23 => ?_)
          have e24 : (0 : Int32) = I23 20 0 34 := by rw [u23, th_u_tag (by decide)]; exact e20
          have g24 : (0 : Int32).toInt = (I23 20 0 34).toInt := by rw [← e24]
          have e25 : x10 = I23 24 0 n7 := by rw [u23, th_u_tag (by decide)]; exact e21
          have g25 : x10.toInt = (I23 24 0 n7).toInt := by rw [← e25]
          have e26 : o = I23 21 0 n15 := by rw [u23, th_u_tag (by decide)]; exact e22
          have g26 : o.toInt = (I23 21 0 n15).toInt := by rw [← e26]
          have e27 : a = I23 22 0 n15 := by rw [u23, th_u_tag (by decide)]; exact e19
          have g27 : a.toInt = (I23 22 0 n15).toInt := by rw [← e27]
          have e23 : b = I23 23 0 n15 := by rw [u23, th_u_eq]
          have g23 : b.toInt = (I23 23 0 n15).toInt := by rw [← e23]
          refine th_aload_n C dc_O_add_99 rfl rfl ?_
          refine tq_getR C dc_O_add_100 cl_20 fd_O_19 rfl (show 0 < 1 from by omega) rfl ?_
          refine th_iload_n C dc_O_add_103 rfl rfl ?_
          refine th_dup2 C dc_O_add_104 ?_
          refine tq_ialdE C dc_O_add_105 rfl (fun _ => rfl) (show 0 < 1 from by omega) rfl m7 (show n7 < 5 from by omega) e25 ?_
          refine th_iconst (v := 1) C dc_O_add_106 th_c_1 ?_
          refine tq_iadd C dc_O_add_107 rfl th_l_1 (fun x29 e29 a29 => ?_)
          refine th_dup_x2 C dc_O_add_108 ?_
          refine tq_iastN C dc_O_add_109 rfl (fun _ => rfl) (show 0 < 1 from by omega) rfl m7 (show n7 < 5 from by omega) ?_
          refine th_gen (P := fun J => J = th_u I23 24 0 n7 x29) rfl (fun I30 u30 => ?_)
          have e31 : (0 : Int32) = I30 20 0 34 := by rw [u30, th_u_tag (by decide)]; exact e24
          have g31 : (0 : Int32).toInt = (I30 20 0 34).toInt := by rw [← e31]
          have e32 : o = I30 21 0 n15 := by rw [u30, th_u_tag (by decide)]; exact e26
          have g32 : o.toInt = (I30 21 0 n15).toInt := by rw [← e32]
          have e33 : a = I30 22 0 n15 := by rw [u30, th_u_tag (by decide)]; exact e27
          have g33 : a.toInt = (I30 22 0 n15).toInt := by rw [← e33]
          have e34 : b = I30 23 0 n15 := by rw [u30, th_u_tag (by decide)]; exact e23
          have g34 : b.toInt = (I30 23 0 n15).toInt := by rw [← e34]
          have e30 : x29 = I30 24 0 n7 := by rw [u30, th_u_eq]
          have g30 : x29.toInt = (I30 24 0 n7).toInt := by rw [← e30]
          exact th_iret C hQ dc_O_add_110 (by decide) (by decide) ⟨_, _, rfl, rfl, (by rw [u30, u23, u19, u16]; exact ro_app hI1 (p5.resolve_right (fun q => absurd q.1 (by omega))).2 (by omega)), trivial⟩
        · refine th_aload_n C dc_O_add_55 rfl rfl ?_
          refine th_iconst (v := 3) C dc_O_add_56 th_c_3 ?_
          refine tq_callVi C (o_O_refuse l hl I1 ((3 : Int32)) hI1) ok_O_124 cl_20 (show 0 < 1 from by omega) rfl (Nat.le_of_ble_eq_true rfl) dc_O_add_57 rfl (fun x35 I35 p35 => ?_)
          obtain ⟨hI35, p35⟩ := p35
          try simp only [th_l_3] at p35
          exact th_iret C hQ dc_O_add_60 (by decide) (by decide) ⟨_, _, rfl, rfl, hI35, trivial⟩
      · refine th_aload_n C dc_O_add_38 rfl rfl ?_
        refine th_iconst (v := 2) C dc_O_add_39 th_c_2 ?_
        refine tq_callVi C (o_O_refuse l hl I1 ((2 : Int32)) hI1) ok_O_124 cl_20 (show 0 < 1 from by omega) rfl (Nat.le_of_ble_eq_true rfl) dc_O_add_40 rfl (fun x36 I36 p36 => ?_)
        obtain ⟨hI36, p36⟩ := p36
        try simp only [th_l_2] at p36
        exact th_iret C hQ dc_O_add_43 (by decide) (by decide) ⟨_, _, rfl, rfl, hI36, trivial⟩
    · refine th_aload_n C dc_O_add_24 rfl rfl ?_
      refine th_iconst (v := 1) C dc_O_add_25 th_c_1 ?_
      refine tq_callVi C (o_O_refuse l hl I1 ((1 : Int32)) hI1) ok_O_124 cl_20 (show 0 < 1 from by omega) rfl (Nat.le_of_ble_eq_true rfl) dc_O_add_26 rfl (fun x37 I37 p37 => ?_)
      obtain ⟨hI37, p37⟩ := p37
      try simp only [th_l_1] at p37
      exact th_iret C hQ dc_O_add_29 (by decide) (by decide) ⟨_, _, rfl, rfl, hI37, trivial⟩
end
section
theorem ro_key38 {K sl : Int} {Z I : th_I} {tn : Nat} {v : Int32} (hI : th_OI K sl Z I) (h2 : ro_no I 46 47 3 tn) (hv : 0 ≤ v.toInt ∧ v.toInt ≤ 2) : th_OI K sl Z (th_u I 38 0 tn v) := by
  obtain ⟨g1, g2, g3, g4, g5, g6, g7, g8⟩ := hI
  refine ⟨fun t' i' k' => ?_, fun k' => by rw [th_u_tag (by decide), th_u_tag (by decide), th_u_tag (by decide)]; exact g2 k', g3, fun t' i' k' q => by rw [th_u_tag (by omega)]; exact g4 t' i' k' q, ro_R_upd g5 h2 (fun _ => th_u_tag (by decide)) (fun _ => th_u_tag (by decide)) (fun _ _ => th_u_tag (by decide)) (fun e he => th_u_slot he), ro_R_frame g6 (fun _ => th_u_tag (by decide)) (fun _ => th_u_tag (by decide)) (fun _ => th_u_tag (by decide)) (fun _ => th_u_tag (by decide)), ro_R_frame g7 (fun _ => th_u_tag (by decide)) (fun _ => th_u_tag (by decide)) (fun _ => th_u_tag (by decide)) (fun _ => th_u_tag (by decide)), fun n hn hs => ?_⟩
  · rcases th_u_or I 38 0 tn v t' i' k' with ⟨rfl, rfl, rfl, e⟩ | e
    · rw [e]; exact hv
    · rw [e]; exact g1 t' i' k'
  · rw [th_u_tag (by decide)] at hs ⊢
    exact g8 n hn hs
theorem ro_lockapp {K sl : Int} {Z I : th_I} {mn tn idx : Nat} {x v s : Int32} (hI : th_OI K sl Z I) (hm : mn < 3) (ht : tn < 5) (h46 : ro_no I 46 47 3 tn) (h48 : ro_no I 48 49 3 tn) (h50 : ro_no I 50 51 5 tn) (hk : (I 38 0 tn).toInt = (mn : Int)) (hidx : (idx : Int) = 5 * (mn : Int) + (I 47 0 mn).toInt) (hx : x.toInt = (I 47 0 mn).toInt + 1) (hv : v.toInt = (tn : Int)) (hs : s.toInt = 2) : th_OI K sl Z (th_u (th_u (th_u I 47 0 mn x) 46 0 idx v) 32 0 tn s) := by
  have hf := ro_full hI.2.2.2.2.1 h46 ht hm (fun k => hI.1 46 0 k) (hI.1 47 0 mn).2
  have h47 : 0 ≤ (I 47 0 mn).toInt := (hI.1 47 0 mn).1
  obtain ⟨n, hn⟩ := th_nat h47
  have hi : idx = 5 * mn + n := by omega
  subst hi
  obtain ⟨g1, g2, g3, g4, g5, g6, g7, g8⟩ := hI
  have f : ∀ t i k, t ≠ 32 → t ≠ 46 → t ≠ 47 → th_u (th_u (th_u I 47 0 mn x) 46 0 (5 * mn + n) v) 32 0 tn s t i k = I t i k := fun t i k a b c => by rw [th_u_tag a, th_u_tag b, th_u_tag c]
  have f32 : ∀ e, e ≠ tn → th_u (th_u (th_u I 47 0 mn x) 46 0 (5 * mn + n) v) 32 0 tn s 32 0 e = I 32 0 e := fun e he => by rw [th_u_slot he, th_u_tag (by decide), th_u_tag (by decide)]
  have f46 : ∀ k, k ≠ 5 * mn + n → th_u (th_u (th_u I 47 0 mn x) 46 0 (5 * mn + n) v) 32 0 tn s 46 0 k = I 46 0 k := fun k hk => by rw [th_u_tag (by decide), th_u_slot hk, th_u_tag (by decide)]
  have f47 : ∀ k, k ≠ mn → th_u (th_u (th_u I 47 0 mn x) 46 0 (5 * mn + n) v) 32 0 tn s 47 0 k = I 47 0 k := fun k hk => by rw [th_u_tag (by decide), th_u_tag (by decide), th_u_slot hk]
  refine ⟨fun t' i' k' => ?_, fun k' => by rw [f _ _ _ (by decide) (by decide) (by decide), f _ _ _ (by decide) (by decide) (by decide), f _ _ _ (by decide) (by decide) (by decide)]; exact g2 k', g3, fun t' i' k' q => by rw [f _ _ _ (by omega) (by omega) (by omega)]; exact g4 t' i' k' q, ?_, ?_, ?_, fun m hm hs2 => ?_⟩
  · rcases th_u_or (th_u (th_u I 47 0 mn x) 46 0 (5 * mn + n) v) 32 0 tn s t' i' k' with ⟨rfl, rfl, rfl, -⟩ | e
    · exact trivial
    · rw [e]
      rcases th_u_or (th_u I 47 0 mn x) 46 0 (5 * mn + n) v t' i' k' with ⟨rfl, rfl, rfl, e⟩ | e
      · rw [e]
        exact (⟨by omega, by omega⟩ : 0 ≤ v.toInt ∧ v.toInt ≤ 4)
      · rw [e]
        rcases th_u_or I 47 0 mn x t' i' k' with ⟨rfl, rfl, rfl, e⟩ | e
        · rw [e]
          exact (⟨by omega, by omega⟩ : 0 ≤ x.toInt ∧ x.toInt ≤ 5)
        · rw [e]; exact g1 t' i' k'
  · exact ro_R_app g5 h46 hm hn.symm (by rw [th_u_tag (by decide), th_u_eq]; exact hv) f46 (by rw [th_u_tag (by decide), th_u_tag (by decide), th_u_eq]; omega) f47 (by omega) (by rw [th_u_eq]; exact hs) (by rw [f _ _ _ (by decide) (by decide) (by decide)]; exact hk) f32 (fun e _ => f _ _ _ (by decide) (by decide) (by decide))
  · exact ro_R_upd g6 h48 (fun k => f _ _ _ (by decide) (by decide) (by decide)) (fun k => f _ _ _ (by decide) (by decide) (by decide)) f32 (fun e _ => f _ _ _ (by decide) (by decide) (by decide))
  · exact ro_R_upd g7 h50 (fun k => f _ _ _ (by decide) (by decide) (by decide)) (fun k => f _ _ _ (by decide) (by decide) (by decide)) f32 (fun e _ => f _ _ _ (by decide) (by decide) (by decide))
  · rw [f _ _ _ (by decide) (by decide) (by decide)]
    by_cases e : m = tn
    · subst e
      rw [th_u_eq] at hs2
      omega
    · rw [f32 m e] at hs2
      exact g8 m hm hs2
end
section
set_option maxRecDepth 100000 in
set_option maxHeartbeats 4000000 in
theorem o_O_goFor (l : Launch) (hl : l.stackTraces = false) {K sl : Int} {Z : th_I} (I : th_I) (t : Int32) (m : Int32) (n : Int32) (tn : Nat) (mn : Nat) (hI : th_OI K sl Z I) (htn : (tn : Int) = t.toInt) (hmn : (mn : Int) = m.toInt) (ht : 0 ≤ t.toInt ∧ t.toInt ≤ 4) (hm : 0 ≤ m.toInt ∧ m.toInt ≤ 2) (h46 : ro_no I 46 47 3 tn) (h48 : ro_no I 48 49 3 tn) (h50 : ro_no I 50 51 5 tn) : th_F l yn_O_goFor cb_O_goFor 4 none { frames := 0, cells := 0, slots := 0, locals := 0 } [.inr (some (20, 0)), .inl t, .inl m, .inl n] (th_m I) (th_rv (fun J => th_OI K sl Z J ∧ (∀ k, J 49 0 k = I 49 0 k))) := by
  refine th_of hl (by decide +kernel) (Nat.le_of_ble_eq_true rfl) (fun z C hQ hN => ?_)
  show th_G l z 4 0 [(0, .inr (some (20, 0))), (1, .inl t), (2, .inl m), (3, .inl n)] [] (th_m I) 0 0
  have hb := hI.2.2.1
  refine th_aload_n C dc_O_goFor_0 rfl rfl ?_
  refine tq_getR C dc_O_goFor_1 cl_20 fd_O_80 rfl (show 0 < 1 from by omega) rfl ?_
  refine th_iload_n C dc_O_goFor_4 rfl rfl ?_
  refine tq_ialdN C dc_O_goFor_5 rfl (fun _ => rfl) (show 0 < 1 from by omega) rfl hmn (show mn < 3 from by omega) (fun x1 e1 => ?_)
  have g1 : x1.toInt = (I 44 0 mn).toInt := by rw [e1]
  refine th_iconst (v := -1) C dc_O_goFor_6 th_c_m1 ?_
  refine tq_icmp_eq (tgt := 20) C dc_O_goFor_7 (by decide) rfl th_l_m1 (fun c2 => ?_) (fun c2 => ?_)
  · refine th_aload_n C dc_O_goFor_20 rfl rfl ?_
    refine tq_getR C dc_O_goFor_21 cl_20 fd_O_80 rfl (show 0 < 1 from by omega) rfl ?_
    refine th_iload_n C dc_O_goFor_24 rfl rfl ?_
    refine th_iload_n C dc_O_goFor_25 rfl rfl ?_
    refine tq_iastN C dc_O_goFor_26 rfl (fun _ => rfl) (show 0 < 1 from by omega) rfl hmn (show mn < 3 from by omega) ?_
    refine th_gen (P := fun J => th_OI K sl Z J ∧ J = th_u I 44 0 mn t) ⟨ro_put hI rfl trivial, rfl⟩ (fun I3 hI3 => ?_)
    obtain ⟨hI3, u3⟩ := hI3
    have e3 : t = I3 44 0 mn := by rw [u3, th_u_eq]
    have g3 : t.toInt = (I3 44 0 mn).toInt := by rw [← e3]
    refine th_aload_n C dc_O_goFor_27 rfl rfl ?_
    refine tq_getR C dc_O_goFor_28 cl_20 fd_O_83 rfl (show 0 < 1 from by omega) rfl ?_
    refine th_iload_n C dc_O_goFor_31 rfl rfl ?_
    refine th_dup2 C dc_O_goFor_32 ?_
    refine tq_ialdN C dc_O_goFor_33 rfl (fun _ => rfl) (show 0 < 1 from by omega) rfl hmn (show mn < 3 from by omega) (fun x4 e4 => ?_)
    have g4 : x4.toInt = (I3 45 0 mn).toInt := by rw [e4]
    refine th_iload_n C dc_O_goFor_34 rfl rfl ?_
    refine tq_iadd C dc_O_goFor_35 rfl rfl (fun x5 e5 a5 => ?_)
    refine tq_iastN C dc_O_goFor_36 rfl (fun _ => rfl) (show 0 < 1 from by omega) rfl hmn (show mn < 3 from by omega) ?_
    refine th_gen (P := fun J => th_OI K sl Z J ∧ J = th_u I3 45 0 mn x5) ⟨ro_put hI3 rfl trivial, rfl⟩ (fun I6 hI6 => ?_)
    obtain ⟨hI6, u6⟩ := hI6
    have e7 : t = I6 44 0 mn := by rw [u6, th_u_tag (by decide)]; exact e3
    have g7 : t.toInt = (I6 44 0 mn).toInt := by rw [← e7]
    have e6 : x5 = I6 45 0 mn := by rw [u6, th_u_eq]
    have g6 : x5.toInt = (I6 45 0 mn).toInt := by rw [← e6]
    refine th_aload_n C dc_O_goFor_37 rfl rfl ?_
    refine tq_getR C dc_O_goFor_38 cl_20 fd_O_43 rfl (show 0 < 1 from by omega) rfl ?_
    refine th_iload_n C dc_O_goFor_41 rfl rfl ?_
    refine th_iconst (v := 1) C dc_O_goFor_42 th_c_1 ?_
    refine tq_iastN C dc_O_goFor_43 rfl (fun _ => rfl) (show 0 < 1 from by omega) rfl htn (show tn < 5 from by omega) ?_
    refine th_gen (P := fun J => th_OI K sl Z J ∧ J = th_u I6 32 0 tn ((1 : Int32))) ⟨ro_state hI6 (ro_no_upd h46 (fun k => by rw [u6, th_u_tag (by decide), u3, th_u_tag (by decide)]) (fun k => by rw [u6, th_u_tag (by decide), u3, th_u_tag (by decide)])) (ro_no_upd h48 (fun k => by rw [u6, th_u_tag (by decide), u3, th_u_tag (by decide)]) (fun k => by rw [u6, th_u_tag (by decide), u3, th_u_tag (by decide)])) (ro_no_upd h50 (fun k => by rw [u6, th_u_tag (by decide), u3, th_u_tag (by decide)]) (fun k => by rw [u6, th_u_tag (by decide), u3, th_u_tag (by decide)])) (by have := th_l_1; omega), rfl⟩ (fun I8 hI8 => ?_)
    obtain ⟨hI8, u8⟩ := hI8
    have e9 : t = I8 44 0 mn := by rw [u8, th_u_tag (by decide)]; exact e7
    have g9 : t.toInt = (I8 44 0 mn).toInt := by rw [← e9]
    have e10 : x5 = I8 45 0 mn := by rw [u8, th_u_tag (by decide)]; exact e6
    have g10 : x5.toInt = (I8 45 0 mn).toInt := by rw [← e10]
    have e8 : (1 : Int32) = I8 32 0 tn := by rw [u8, th_u_eq]
    have g8 : 1 = (I8 32 0 tn).toInt := by rw [← e8]; exact th_l_1.symm
    exact th_vret C hQ dc_O_goFor_44 (by decide) (by decide) ⟨_, rfl, rfl, hI8, fun k => by rw [u8, th_u_tag (by decide), u6, th_u_tag (by decide), u3, th_u_tag (by decide)]⟩
  · refine th_aload_n C dc_O_goFor_10 rfl rfl ?_
    refine tq_getR C dc_O_goFor_11 cl_20 fd_O_80 rfl (show 0 < 1 from by omega) rfl ?_
    refine th_iload_n C dc_O_goFor_14 rfl rfl ?_
    refine tq_ialdE C dc_O_goFor_15 rfl (fun _ => rfl) (show 0 < 1 from by omega) rfl hmn (show mn < 3 from by omega) e1 ?_
    refine th_iload_n C dc_O_goFor_16 rfl rfl ?_
    refine tq_icmp_ne (tgt := 45) C dc_O_goFor_17 (by decide) rfl rfl (fun c12 => ?_) (fun c12 => ?_)
    · refine th_aload_n C dc_O_goFor_45 rfl rfl ?_
      refine tq_getR C dc_O_goFor_46 cl_20 fd_O_61 rfl (show 0 < 1 from by omega) rfl ?_
      refine th_iload_n C dc_O_goFor_49 rfl rfl ?_
      refine th_iload_n C dc_O_goFor_50 rfl rfl ?_
      refine tq_iastN C dc_O_goFor_51 rfl (fun _ => rfl) (show 0 < 1 from by omega) rfl htn (show tn < 5 from by omega) ?_
      refine th_gen (P := fun J => th_OI K sl Z J ∧ J = th_u I 38 0 tn m) ⟨ro_key38 hI h46 (by omega), rfl⟩ (fun I13 hI13 => ?_)
      obtain ⟨hI13, u13⟩ := hI13
      have e14 : x1 = I13 44 0 mn := by rw [u13, th_u_tag (by decide)]; exact e1
      have g14 : x1.toInt = (I13 44 0 mn).toInt := by rw [← e14]
      have e13 : m = I13 38 0 tn := by rw [u13, th_u_eq]
      have g13 : m.toInt = (I13 38 0 tn).toInt := by rw [← e13]
      refine th_aload_n C dc_O_goFor_52 rfl rfl ?_
      refine tq_getR C dc_O_goFor_53 cl_20 fd_O_64 rfl (show 0 < 1 from by omega) rfl ?_
      refine th_iload_n C dc_O_goFor_56 rfl rfl ?_
      refine th_iload_n C dc_O_goFor_57 rfl rfl ?_
      refine tq_iastN C dc_O_goFor_58 rfl (fun _ => rfl) (show 0 < 1 from by omega) rfl htn (show tn < 5 from by omega) ?_
      refine th_gen (P := fun J => th_OI K sl Z J ∧ J = th_u I13 39 0 tn n) ⟨ro_put hI13 rfl trivial, rfl⟩ (fun I15 hI15 => ?_)
      obtain ⟨hI15, u15⟩ := hI15
      have e16 : x1 = I15 44 0 mn := by rw [u15, th_u_tag (by decide)]; exact e14
      have g16 : x1.toInt = (I15 44 0 mn).toInt := by rw [← e16]
      have e17 : m = I15 38 0 tn := by rw [u15, th_u_tag (by decide)]; exact e13
      have g17 : m.toInt = (I15 38 0 tn).toInt := by rw [← e17]
      have e15 : n = I15 39 0 tn := by rw [u15, th_u_eq]
      have g15 : n.toInt = (I15 39 0 tn).toInt := by rw [← e15]
      refine th_aload_n C dc_O_goFor_59 rfl rfl ?_
      refine tq_getR C dc_O_goFor_60 cl_20 fd_O_86 rfl (show 0 < 1 from by omega) rfl ?_
      refine th_iconst (v := 5) C dc_O_goFor_63 th_c_5 ?_
      refine th_iload_n C dc_O_goFor_64 rfl rfl ?_
      refine tq_imul C dc_O_goFor_65 th_l_5 rfl (fun x18 e18 a18 => ?_)
      refine th_aload_n C dc_O_goFor_66 rfl rfl ?_
      refine tq_getR C dc_O_goFor_67 cl_20 fd_O_89 rfl (show 0 < 1 from by omega) rfl ?_
      refine th_iload_n C dc_O_goFor_70 rfl rfl ?_
      refine th_dup2 C dc_O_goFor_71 ?_
      refine tq_ialdN C dc_O_goFor_72 rfl (fun _ => rfl) (show 0 < 1 from by omega) rfl hmn (show mn < 3 from by omega) (fun x19 e19 => ?_)
      have g19 : x19.toInt = (I15 47 0 mn).toInt := by rw [e19]
      have r19 : 0 ≤ x19.toInt ∧ x19.toInt ≤ 5 := by rw [e19]; exact hI15.1 47 0 mn
      refine th_dup_x2 C dc_O_goFor_73 ?_
      have hf := ro_full hI15.2.2.2.2.1 (ro_no_upd h46 (fun k => by rw [u15, th_u_tag (by decide), u13, th_u_tag (by decide)]) (fun k => by rw [u15, th_u_tag (by decide), u13, th_u_tag (by decide)])) (by omega) (show mn < 3 from by omega) (fun k => hI15.1 46 0 k) (hI15.1 47 0 mn).2
      refine th_iconst (v := 1) C dc_O_goFor_74 th_c_1 ?_
      refine tq_iadd C dc_O_goFor_75 rfl th_l_1 (fun x20 e20 a20 => ?_)
      refine tq_iastN C dc_O_goFor_76 rfl (fun _ => rfl) (show 0 < 1 from by omega) rfl hmn (show mn < 3 from by omega) ?_
      refine th_gen (P := fun J => J = th_u I15 47 0 mn x20) rfl (fun I21 u21 => ?_)
      have e22 : x1 = I21 44 0 mn := by rw [u21, th_u_tag (by decide)]; exact e16
      have g22 : x1.toInt = (I21 44 0 mn).toInt := by rw [← e22]
      have e23 : m = I21 38 0 tn := by rw [u21, th_u_tag (by decide)]; exact e17
      have g23 : m.toInt = (I21 38 0 tn).toInt := by rw [← e23]
      have e24 : n = I21 39 0 tn := by rw [u21, th_u_tag (by decide)]; exact e15
      have g24 : n.toInt = (I21 39 0 tn).toInt := by rw [← e24]
      have e21 : x20 = I21 47 0 mn := by rw [u21, th_u_eq]
      have g21 : x20.toInt = (I21 47 0 mn).toInt := by rw [← e21]
      refine tq_iadd C dc_O_goFor_77 rfl rfl (fun x25 e25 a25 => ?_)
      refine th_iload_n C dc_O_goFor_78 rfl rfl ?_
      obtain ⟨n26, m26⟩ := th_nat (a := x25.toInt) (by omega)
      refine tq_iastN C dc_O_goFor_79 rfl (fun _ => rfl) (show 0 < 1 from by omega) rfl m26 (show n26 < 15 from by omega) ?_
      refine th_gen (P := fun J => J = th_u I21 46 0 n26 t) rfl (fun I27 u27 => ?_)
      have e28 : x1 = I27 44 0 mn := by rw [u27, th_u_tag (by decide)]; exact e22
      have g28 : x1.toInt = (I27 44 0 mn).toInt := by rw [← e28]
      have e29 : m = I27 38 0 tn := by rw [u27, th_u_tag (by decide)]; exact e23
      have g29 : m.toInt = (I27 38 0 tn).toInt := by rw [← e29]
      have e30 : n = I27 39 0 tn := by rw [u27, th_u_tag (by decide)]; exact e24
      have g30 : n.toInt = (I27 39 0 tn).toInt := by rw [← e30]
      have e31 : x20 = I27 47 0 mn := by rw [u27, th_u_tag (by decide)]; exact e21
      have g31 : x20.toInt = (I27 47 0 mn).toInt := by rw [← e31]
      have e27 : t = I27 46 0 n26 := by rw [u27, th_u_eq]
      have g27 : t.toInt = (I27 46 0 n26).toInt := by rw [← e27]
      refine th_aload_n C dc_O_goFor_80 rfl rfl ?_
      refine tq_getR C dc_O_goFor_81 cl_20 fd_O_43 rfl (show 0 < 1 from by omega) rfl ?_
      refine th_iload_n C dc_O_goFor_84 rfl rfl ?_
      refine th_iconst (v := 2) C dc_O_goFor_85 th_c_2 ?_
      refine tq_iastN C dc_O_goFor_86 rfl (fun _ => rfl) (show 0 < 1 from by omega) rfl htn (show tn < 5 from by omega) ?_
      refine th_gen (P := fun J => J = th_u I27 32 0 tn ((2 : Int32))) rfl (fun I32 u32 => ?_)
      have e33 : x1 = I32 44 0 mn := by rw [u32, th_u_tag (by decide)]; exact e28
      have g33 : x1.toInt = (I32 44 0 mn).toInt := by rw [← e33]
      have e34 : m = I32 38 0 tn := by rw [u32, th_u_tag (by decide)]; exact e29
      have g34 : m.toInt = (I32 38 0 tn).toInt := by rw [← e34]
      have e35 : n = I32 39 0 tn := by rw [u32, th_u_tag (by decide)]; exact e30
      have g35 : n.toInt = (I32 39 0 tn).toInt := by rw [← e35]
      have e36 : x20 = I32 47 0 mn := by rw [u32, th_u_tag (by decide)]; exact e31
      have g36 : x20.toInt = (I32 47 0 mn).toInt := by rw [← e36]
      have e37 : t = I32 46 0 n26 := by rw [u32, th_u_tag (by decide)]; exact e27
      have g37 : t.toInt = (I32 46 0 n26).toInt := by rw [← e37]
      have e32 : (2 : Int32) = I32 32 0 tn := by rw [u32, th_u_eq]
      have g32 : 2 = (I32 32 0 tn).toInt := by rw [← e32]; exact th_l_2.symm
      exact th_vret C hQ dc_O_goFor_87 (by decide) (by decide) ⟨_, rfl, rfl, (by rw [u32, u27, u21]; exact ro_lockapp hI15 (by omega) (by omega) (ro_no_upd h46 (fun k => by rw [u15, th_u_tag (by decide), u13, th_u_tag (by decide)]) (fun k => by rw [u15, th_u_tag (by decide), u13, th_u_tag (by decide)])) (ro_no_upd h48 (fun k => by rw [u15, th_u_tag (by decide), u13, th_u_tag (by decide)]) (fun k => by rw [u15, th_u_tag (by decide), u13, th_u_tag (by decide)])) (ro_no_upd h50 (fun k => by rw [u15, th_u_tag (by decide), u13, th_u_tag (by decide)]) (fun k => by rw [u15, th_u_tag (by decide), u13, th_u_tag (by decide)])) (by omega) (by omega) (by omega) (by omega) th_l_2), fun k => by rw [u32, th_u_tag (by decide), u27, th_u_tag (by decide), u21, th_u_tag (by decide), u15, th_u_tag (by decide), u13, th_u_tag (by decide)]⟩
    · refine th_aload_n C dc_O_goFor_20 rfl rfl ?_
      refine tq_getR C dc_O_goFor_21 cl_20 fd_O_80 rfl (show 0 < 1 from by omega) rfl ?_
      refine th_iload_n C dc_O_goFor_24 rfl rfl ?_
      refine th_iload_n C dc_O_goFor_25 rfl rfl ?_
      refine tq_iastN C dc_O_goFor_26 rfl (fun _ => rfl) (show 0 < 1 from by omega) rfl hmn (show mn < 3 from by omega) ?_
      refine th_gen (P := fun J => th_OI K sl Z J ∧ J = th_u I 44 0 mn t) ⟨ro_put hI rfl trivial, rfl⟩ (fun I38 hI38 => ?_)
      obtain ⟨hI38, u38⟩ := hI38
      have e38 : t = I38 44 0 mn := by rw [u38, th_u_eq]
      have g38 : t.toInt = (I38 44 0 mn).toInt := by rw [← e38]
      refine th_aload_n C dc_O_goFor_27 rfl rfl ?_
      refine tq_getR C dc_O_goFor_28 cl_20 fd_O_83 rfl (show 0 < 1 from by omega) rfl ?_
      refine th_iload_n C dc_O_goFor_31 rfl rfl ?_
      refine th_dup2 C dc_O_goFor_32 ?_
      refine tq_ialdN C dc_O_goFor_33 rfl (fun _ => rfl) (show 0 < 1 from by omega) rfl hmn (show mn < 3 from by omega) (fun x39 e39 => ?_)
      have g39 : x39.toInt = (I38 45 0 mn).toInt := by rw [e39]
      refine th_iload_n C dc_O_goFor_34 rfl rfl ?_
      refine tq_iadd C dc_O_goFor_35 rfl rfl (fun x40 e40 a40 => ?_)
      refine tq_iastN C dc_O_goFor_36 rfl (fun _ => rfl) (show 0 < 1 from by omega) rfl hmn (show mn < 3 from by omega) ?_
      refine th_gen (P := fun J => th_OI K sl Z J ∧ J = th_u I38 45 0 mn x40) ⟨ro_put hI38 rfl trivial, rfl⟩ (fun I41 hI41 => ?_)
      obtain ⟨hI41, u41⟩ := hI41
      have e42 : t = I41 44 0 mn := by rw [u41, th_u_tag (by decide)]; exact e38
      have g42 : t.toInt = (I41 44 0 mn).toInt := by rw [← e42]
      have e41 : x40 = I41 45 0 mn := by rw [u41, th_u_eq]
      have g41 : x40.toInt = (I41 45 0 mn).toInt := by rw [← e41]
      refine th_aload_n C dc_O_goFor_37 rfl rfl ?_
      refine tq_getR C dc_O_goFor_38 cl_20 fd_O_43 rfl (show 0 < 1 from by omega) rfl ?_
      refine th_iload_n C dc_O_goFor_41 rfl rfl ?_
      refine th_iconst (v := 1) C dc_O_goFor_42 th_c_1 ?_
      refine tq_iastN C dc_O_goFor_43 rfl (fun _ => rfl) (show 0 < 1 from by omega) rfl htn (show tn < 5 from by omega) ?_
      refine th_gen (P := fun J => th_OI K sl Z J ∧ J = th_u I41 32 0 tn ((1 : Int32))) ⟨ro_state hI41 (ro_no_upd h46 (fun k => by rw [u41, th_u_tag (by decide), u38, th_u_tag (by decide)]) (fun k => by rw [u41, th_u_tag (by decide), u38, th_u_tag (by decide)])) (ro_no_upd h48 (fun k => by rw [u41, th_u_tag (by decide), u38, th_u_tag (by decide)]) (fun k => by rw [u41, th_u_tag (by decide), u38, th_u_tag (by decide)])) (ro_no_upd h50 (fun k => by rw [u41, th_u_tag (by decide), u38, th_u_tag (by decide)]) (fun k => by rw [u41, th_u_tag (by decide), u38, th_u_tag (by decide)])) (by have := th_l_1; omega), rfl⟩ (fun I43 hI43 => ?_)
      obtain ⟨hI43, u43⟩ := hI43
      have e44 : t = I43 44 0 mn := by rw [u43, th_u_tag (by decide)]; exact e42
      have g44 : t.toInt = (I43 44 0 mn).toInt := by rw [← e44]
      have e45 : x40 = I43 45 0 mn := by rw [u43, th_u_tag (by decide)]; exact e41
      have g45 : x40.toInt = (I43 45 0 mn).toInt := by rw [← e45]
      have e43 : (1 : Int32) = I43 32 0 tn := by rw [u43, th_u_eq]
      have g43 : 1 = (I43 32 0 tn).toInt := by rw [← e43]; exact th_l_1.symm
      exact th_vret C hQ dc_O_goFor_44 (by decide) (by decide) ⟨_, rfl, rfl, hI43, fun k => by rw [u43, th_u_tag (by decide), u41, th_u_tag (by decide), u38, th_u_tag (by decide)]⟩
end
section
def ro_ps (K sl : Int) (Z I : th_I) (mn : Nat) (k : Int) (J : th_I) : Prop :=
  (∀ t i q, ro_ok K sl t i q (J t i q).toInt) ∧ (∀ t i q, t < 20 → J t i q = Z t i q) ∧ (∀ t q, ro_tag t = false → 20 ≤ t → t ≠ 46 → t ≠ 47 → J t 0 q = I t 0 q) ∧
  (J 47 0 mn).toInt = (I 47 0 mn).toInt - 1 ∧ (∀ q, q ≠ mn → J 47 0 q = I 47 0 q) ∧ (∀ q : Nat, (q : Int) < k → J 46 0 (5 * mn + q) = I 46 0 (5 * mn + q + 1)) ∧ (∀ q : Nat, q < 5 * mn ∨ 5 * (mn : Int) + k ≤ (q : Int) → J 46 0 q = I 46 0 q)
theorem ro_ps_eq {K sl k k' : Int} {Z I J : th_I} {mn : Nat} (h : ro_ps K sl Z I mn k J) (e : k' = k) : ro_ps K sl Z I mn k' J := by
  rw [e]
  exact h
theorem ro_ps0 {K sl : Int} {Z I A : th_I} {mn : Nat} {x : Int32} (hA : th_OI K sl Z A) (hf : ∀ t q, ro_tag t = false → 20 ≤ t → A t 0 q = I t 0 q) (hx : x.toInt = (I 47 0 mn).toInt - 1) (hr : 0 ≤ x.toInt ∧ x.toInt ≤ 5) : ro_ps K sl Z I mn 0 (th_u A 47 0 mn x) := by
  refine ⟨fun t' i' k' => ?_, fun t' i' k' q => by rw [th_u_tag (by omega)]; exact hA.2.2.2.1 t' i' k' q, fun t q h1 h2 _ h4 => by rw [th_u_tag h4]; exact hf t q h1 h2, by rw [th_u_eq]; exact hx, fun q hq => by rw [th_u_slot hq]; exact hf 47 q rfl (by decide), fun q hq => absurd hq (by omega), fun q _ => by rw [th_u_tag (by decide)]; exact hf 46 q rfl (by decide)⟩
  rcases th_u_or A 47 0 mn x t' i' k' with ⟨rfl, rfl, rfl, e⟩ | e
  · rw [e]; exact hr
  · rw [e]; exact hA.1 t' i' k'
theorem ro_ps1 {K sl k : Int} {Z I J : th_I} {mn a b : Nat} {v : Int32} (h : ro_ps K sl Z I mn k J) (hk : 0 ≤ k) (ha : (a : Int) = 5 * (mn : Int) + k) (hb : (b : Int) = 5 * (mn : Int) + k + 1) (hv : v = J 46 0 b) : ro_ps K sl Z I mn (k + 1) (th_u J 46 0 a v) := by
  obtain ⟨g1, g2, g3, g4, g5, g6, g7⟩ := h
  refine ⟨fun t' i' k' => ?_, fun t' i' k' q => by rw [th_u_tag (by omega)]; exact g2 t' i' k' q, fun t q h1 h2 h3 h4 => by rw [th_u_tag h3]; exact g3 t q h1 h2 h3 h4, by rw [th_u_tag (by decide)]; exact g4, fun q hq => by rw [th_u_tag (by decide)]; exact g5 q hq, fun q hq => ?_, fun q hq => by rw [th_u_slot (by omega)]; exact g7 q (by omega)⟩
  · rcases th_u_or J 46 0 a v t' i' k' with ⟨rfl, rfl, rfl, e⟩ | e
    · rw [e, hv]; exact g1 46 0 b
    · rw [e]; exact g1 t' i' k'
  · by_cases c : (q : Int) < k
    · rw [th_u_slot (by omega)]
      exact g6 q c
    · have e1 : a = 5 * mn + q := by omega
      have e2 : b = 5 * mn + q + 1 := by omega
      subst e1 e2
      rw [th_u_eq, hv]
      exact g7 (5 * mn + q + 1) (by omega)
theorem ro_psput {K sl k : Int} {Z I J : th_I} {mn t i q : Nat} {v : Int32} (h : ro_ps K sl Z I mn k J) (ht : ro_tag t = true) (hv : ro_ok K sl t i q v.toInt) : ro_ps K sl Z I mn k (th_u J t i q v) := by
  obtain ⟨g1, g2, g3, g4, g5, g6, g7⟩ := h
  have ht20 : 20 ≤ t := by
    unfold ro_tag at ht
    simp only [Bool.and_eq_true, Nat.ble_eq] at ht
    exact ht.1
  refine ⟨fun t' i' k' => ?_, fun t' i' k' q => by rw [th_u_tag (by omega)]; exact g2 t' i' k' q, fun t' q h1 h2 h3 h4 => by rw [th_u_tag (ro_tag_ne ht h1)]; exact g3 t' q h1 h2 h3 h4, by rw [th_u_tag (ro_tag_ne ht rfl)]; exact g4, fun q hq => by rw [th_u_tag (ro_tag_ne ht rfl)]; exact g5 q hq, fun q hq => by rw [th_u_tag (ro_tag_ne ht rfl)]; exact g6 q hq, fun q hq => by rw [th_u_tag (ro_tag_ne ht rfl)]; exact g7 q hq⟩
  rcases th_u_or J t i q v t' i' k' with ⟨rfl, rfl, rfl, e⟩ | e
  · rw [e]; exact hv
  · rw [e]; exact g1 t' i' k'
theorem ro_psend {K sl k : Int} {Z I J : th_I} {mn tn : Nat} {s : Int32} (h : ro_ps K sl Z I mn k J) (hI : th_OI K sl Z I) (hm : mn < 3) (h0 : 0 < (I 47 0 mn).toInt) (hk : (I 47 0 mn).toInt - 1 ≤ k) (hk5 : k ≤ 5) (ht : (I 46 0 (5 * mn)).toInt = (tn : Int)) (hs : s.toInt = 1) : th_OI K sl Z (th_u J 32 0 tn s) := by
  obtain ⟨a1, a2, a3, a4, a5, a6, a7⟩ := h
  obtain ⟨g1, g2, g3, g4, g5, g6, g7, g8⟩ := hI
  have b5 : (I 47 0 mn).toInt ≤ 5 := (g1 47 0 mn).2
  obtain ⟨n, hn⟩ := th_nat (a := (I 47 0 mn).toInt - 1) (by omega)
  have f : ∀ t q, ro_tag t = false → 20 ≤ t → t ≠ 46 → t ≠ 47 → t ≠ 32 → th_u J 32 0 tn s t 0 q = I t 0 q := fun t q b c d e g => by rw [th_u_tag g]; exact a3 t q b c d e
  have f32 : ∀ e, e ≠ tn → th_u J 32 0 tn s 32 0 e = I 32 0 e := fun e he => by rw [th_u_slot he]; exact a3 32 e rfl (by decide) (by decide) (by decide)
  have key := g5.1 mn hm 0 (by omega) (by omega) tn (by rw [Nat.add_zero]; exact ht)
  refine ⟨fun t' i' k' => ?_, fun k' => by rw [f _ _ rfl (by decide) (by decide) (by decide) (by decide), f _ _ rfl (by decide) (by decide) (by decide) (by decide), f _ _ rfl (by decide) (by decide) (by decide) (by decide)]; exact g2 k', g3, fun t' i' k' q => by rw [th_u_tag (by omega)]; exact a2 t' i' k' q, ?_, ?_, ?_, fun m hm hs2 => ?_⟩
  · rcases th_u_or J 32 0 tn s t' i' k' with ⟨rfl, rfl, rfl, -⟩ | e
    · exact trivial
    · rw [e]; exact a1 t' i' k'
  · exact (ro_R_pop (n := n) g5 hm (by omega) (by omega) ht (fun q hq => by rw [th_u_tag (by decide)]; exact a6 q (by omega)) (fun r q hr hq => by rw [th_u_tag (by decide)]; exact a7 (5 * r + q) (by omega)) (by rw [th_u_tag (by decide)]; omega) (fun q hq => by rw [th_u_tag (by decide)]; exact a5 q hq) f32 (fun e _ => f _ _ rfl (by decide) (by decide) (by decide) (by decide))).1
  · exact ro_R_upd g6 (ro_no_of g6 (by rw [key.1]; decide)) (fun q => f _ _ rfl (by decide) (by decide) (by decide) (by decide)) (fun q => f _ _ rfl (by decide) (by decide) (by decide) (by decide)) f32 (fun e _ => f _ _ rfl (by decide) (by decide) (by decide) (by decide))
  · exact ro_R_upd g7 (ro_no_of g7 (by rw [key.1]; decide)) (fun q => f _ _ rfl (by decide) (by decide) (by decide) (by decide)) (fun q => f _ _ rfl (by decide) (by decide) (by decide) (by decide)) f32 (fun e _ => f _ _ rfl (by decide) (by decide) (by decide) (by decide))
  · rw [f _ _ rfl (by decide) (by decide) (by decide) (by decide)]
    by_cases e : m = tn
    · subst e
      rw [th_u_eq] at hs2
      omega
    · rw [f32 m e] at hs2
      exact g8 m hm hs2
theorem ro_pspost {K sl k : Int} {Z I J : th_I} {mn tn : Nat} {s : Int32} (h : ro_ps K sl Z I mn k J) (hs : s.toInt = 1) : ∀ e, th_u J 32 0 tn s 32 0 e = I 32 0 e ∨ (th_u J 32 0 tn s 32 0 e).toInt = 1 := by
  intro e
  by_cases c : e = tn
  · subst c
    rw [th_u_eq]
    exact Or.inr hs
  · rw [th_u_slot c]
    exact Or.inl (h.2.2.1 32 e rfl (by decide) (by decide) (by decide))
end
section
set_option maxRecDepth 100000 in
set_option maxHeartbeats 4000000 in
theorem o_O_pass (l : Launch) (hl : l.stackTraces = false) {K sl : Int} {Z : th_I} (I : th_I) (m : Int32) (mn : Nat) (hI : th_OI K sl Z I) (hmn : (mn : Int) = m.toInt) (hm : 0 ≤ m.toInt ∧ m.toInt ≤ 2) : th_F l yn_O_pass cb_O_pass 4 none { frames := 0, cells := 0, slots := 0, locals := 0 } [.inr (some (20, 0)), .inl m] (th_m I) (th_rv (fun J => th_OI K sl Z J ∧ (∀ e, J 32 0 e = I 32 0 e ∨ (J 32 0 e).toInt = 1))) := by
  refine th_of hl (by decide +kernel) (Nat.le_of_ble_eq_true rfl) (fun z C hQ hN => ?_)
  show th_G l z 4 0 [(0, .inr (some (20, 0))), (1, .inl m)] [] (th_m I) 0 0
  have hb := hI.2.2.1
  have q47 : 0 ≤ (I 47 0 mn).toInt ∧ (I 47 0 mn).toInt ≤ 5 := hI.1 47 0 mn
  refine th_aload_n C dc_O_pass_0 rfl rfl ?_
  refine tq_getR C dc_O_pass_1 cl_20 fd_O_80 rfl (show 0 < 1 from by omega) rfl ?_
  refine th_iload_n C dc_O_pass_4 rfl rfl ?_
  refine th_iconst (v := -1) C dc_O_pass_5 th_c_m1 ?_
  refine tq_iastN C dc_O_pass_6 rfl (fun _ => rfl) (show 0 < 1 from by omega) rfl hmn (show mn < 3 from by omega) ?_
  refine th_gen (P := fun J => th_OI K sl Z J ∧ J = th_u I 44 0 mn ((-1 : Int32))) ⟨ro_put hI rfl trivial, rfl⟩ (fun I1 hI1 => ?_)
  obtain ⟨hI1, u1⟩ := hI1
  have e1 : (-1 : Int32) = I1 44 0 mn := by rw [u1, th_u_eq]
  have g1 : -1 = (I1 44 0 mn).toInt := by rw [← e1]; exact th_l_m1.symm
  refine th_aload_n C dc_O_pass_7 rfl rfl ?_
  refine tq_getR C dc_O_pass_8 cl_20 fd_O_83 rfl (show 0 < 1 from by omega) rfl ?_
  refine th_iload_n C dc_O_pass_11 rfl rfl ?_
  refine th_iconst (v := 0) C dc_O_pass_12 th_c_0 ?_
  refine tq_iastN C dc_O_pass_13 rfl (fun _ => rfl) (show 0 < 1 from by omega) rfl hmn (show mn < 3 from by omega) ?_
  refine th_gen (P := fun J => th_OI K sl Z J ∧ J = th_u I1 45 0 mn ((0 : Int32))) ⟨ro_put hI1 rfl trivial, rfl⟩ (fun I2 hI2 => ?_)
  obtain ⟨hI2, u2⟩ := hI2
  have e3 : (-1 : Int32) = I2 44 0 mn := by rw [u2, th_u_tag (by decide)]; exact e1
  have g3 : (-1 : Int32).toInt = (I2 44 0 mn).toInt := by rw [← e3]
  have e2 : (0 : Int32) = I2 45 0 mn := by rw [u2, th_u_eq]
  have g2 : 0 = (I2 45 0 mn).toInt := by rw [← e2]; exact th_l_0.symm
  refine th_aload_n C dc_O_pass_14 rfl rfl ?_
  have a47 : (I2 47 0 mn).toInt = (I 47 0 mn).toInt := by rw [u2, th_u_tag (by decide), u1, th_u_tag (by decide)]
  refine tq_getR C dc_O_pass_15 cl_20 fd_O_89 rfl (show 0 < 1 from by omega) rfl ?_
  refine th_iload_n C dc_O_pass_18 rfl rfl ?_
  refine tq_ialdN C dc_O_pass_19 rfl (fun _ => rfl) (show 0 < 1 from by omega) rfl hmn (show mn < 3 from by omega) (fun x4 e4 => ?_)
  have g4 : x4.toInt = (I2 47 0 mn).toInt := by rw [e4]
  have r4 : 0 ≤ x4.toInt ∧ x4.toInt ≤ 5 := by rw [e4]; exact hI2.1 47 0 mn
  refine tq_if_ne (tgt := 24) C dc_O_pass_20 (by decide) rfl (fun c5 => ?_) (fun c5 => ?_)
  · refine th_aload_n C dc_O_pass_24 rfl rfl ?_
    refine tq_getR C dc_O_pass_25 cl_20 fd_O_86 rfl (show 0 < 1 from by omega) rfl ?_
    refine th_iconst (v := 5) C dc_O_pass_28 th_c_5 ?_
    refine th_iload_n C dc_O_pass_29 rfl rfl ?_
    refine tq_imul C dc_O_pass_30 th_l_5 rfl (fun x6 e6 a6 => ?_)
    obtain ⟨n8, m8⟩ := th_nat (a := x6.toInt) (by omega)
    refine tq_ialdN C dc_O_pass_31 rfl (fun _ => rfl) (show 0 < 1 from by omega) rfl m8 (show n8 < 15 from by omega) (fun x7 e7 => ?_)
    have g7 : x7.toInt = (I2 46 0 n8).toInt := by rw [e7]
    have r7 : 0 ≤ x7.toInt ∧ x7.toInt ≤ 4 := by rw [e7]; exact hI2.1 46 0 n8
    have a46 : x7.toInt = (I 46 0 (5 * mn)).toInt := by have q : n8 = 5 * mn := (by omega); rw [← q, show I 46 0 n8 = I2 46 0 n8 from by rw [u2, th_u_tag (by decide), u1, th_u_tag (by decide)]]; omega
    refine th_istore_n (lv' := [(0, .inr (some (20, 0))), (1, .inl m), (2, .inl x7)]) C dc_O_pass_32 rfl (by decide) rfl ?_
    refine th_aload_n C dc_O_pass_33 rfl rfl ?_
    refine tq_getR C dc_O_pass_34 cl_20 fd_O_89 rfl (show 0 < 1 from by omega) rfl ?_
    refine th_iload_n C dc_O_pass_37 rfl rfl ?_
    refine th_dup2 C dc_O_pass_38 ?_
    refine tq_ialdE C dc_O_pass_39 rfl (fun _ => rfl) (show 0 < 1 from by omega) rfl hmn (show mn < 3 from by omega) e4 ?_
    refine th_iconst (v := 1) C dc_O_pass_40 th_c_1 ?_
    refine tq_isub C dc_O_pass_41 rfl th_l_1 (fun x10 e10 a10 => ?_)
    refine tq_iastN C dc_O_pass_42 rfl (fun _ => rfl) (show 0 < 1 from by omega) rfl hmn (show mn < 3 from by omega) ?_
    refine th_gen (P := fun J => ro_ps K sl Z I mn 0 J ∧ J = th_u I2 47 0 mn x10) ⟨ro_ps0 hI2 (fun t q ht _ => by rw [u2, th_u_tag (ro_tag_ne rfl ht), u1, th_u_tag (ro_tag_ne rfl ht)]) (by omega) (by omega), rfl⟩ (fun I11 hI11 => ?_)
    obtain ⟨hI11, u11⟩ := hI11
    have e12 : (-1 : Int32) = I11 44 0 mn := by rw [u11, th_u_tag (by decide)]; exact e3
    have g12 : (-1 : Int32).toInt = (I11 44 0 mn).toInt := by rw [← e12]
    have e13 : (0 : Int32) = I11 45 0 mn := by rw [u11, th_u_tag (by decide)]; exact e2
    have g13 : (0 : Int32).toInt = (I11 45 0 mn).toInt := by rw [← e13]
    have e14 : x7 = I11 46 0 n8 := by rw [u11, th_u_tag (by decide)]; exact e7
    have g14 : x7.toInt = (I11 46 0 n8).toInt := by rw [← e14]
    have e11 : x10 = I11 47 0 mn := by rw [u11, th_u_eq]
    have g11 : x10.toInt = (I11 47 0 mn).toInt := by rw [← e11]
    refine th_iconst (v := 0) C dc_O_pass_43 th_c_0 ?_
    refine th_istore_n (lv' := [(0, .inr (some (20, 0))), (1, .inl m), (2, .inl x7), (3, .inl ((0 : Int32)))]) C dc_O_pass_44 rfl (by decide) rfl ?_
    have L45 : ∀ (N : Nat) (k : Int32) (I15 : th_I), (ro_ps K sl Z I mn k.toInt I15) → (0 ≤ k.toInt ∧ k.toInt ≤ (I15 47 0 mn).toInt) → ((I15 47 0 mn).toInt = (I 47 0 mn).toInt - 1) → (5 - k.toInt).toNat < N → th_G l z 4 45 [(0, .inr (some (20, 0))), (1, .inl m), (2, .inl x7), (3, .inl k)] [] (th_m I15) 0 0 := by
      intro N
      induction N with
      | zero => intro k I15 hI15 h1 h2 hm; exact absurd hm (Nat.not_lt_zero _)
      | succ N ih =>
        intro k I15 hI15 h1 h2 hm
        refine th_iload_n C dc_O_pass_45 rfl rfl ?_
        refine th_aload_n C dc_O_pass_46 rfl rfl ?_
        refine tq_getR C dc_O_pass_47 cl_20 fd_O_89 rfl (show 0 < 1 from by omega) rfl ?_
        refine th_iload_n C dc_O_pass_50 rfl rfl ?_
        refine tq_ialdN C dc_O_pass_51 rfl (fun _ => rfl) (show 0 < 1 from by omega) rfl hmn (show mn < 3 from by omega) (fun x16 e16 => ?_)
        have g16 : x16.toInt = (I15 47 0 mn).toInt := by rw [e16]
        have r16 : 0 ≤ x16.toInt ∧ x16.toInt ≤ 5 := by rw [e16]; exact hI15.1 47 0 mn
        refine tq_icmp_ge (tgt := 83) C dc_O_pass_52 (by decide) rfl rfl (fun c17 => ?_) (fun c17 => ?_)
        · refine th_aload_n C dc_O_pass_83 rfl rfl ?_
          refine tq_getR C dc_O_pass_84 cl_20 fd_O_80 rfl (show 0 < 1 from by omega) rfl ?_
          refine th_iload_n C dc_O_pass_87 rfl rfl ?_
          refine th_iload_n C dc_O_pass_88 rfl rfl ?_
          refine tq_iastN C dc_O_pass_89 rfl (fun _ => rfl) (show 0 < 1 from by omega) rfl hmn (show mn < 3 from by omega) ?_
          refine th_gen (P := fun J => ro_ps K sl Z I mn k.toInt J ∧ J = th_u I15 44 0 mn x7) ⟨ro_psput hI15 rfl trivial, rfl⟩ (fun I18 hI18 => ?_)
          obtain ⟨hI18, u18⟩ := hI18
          have e19 : x16 = I18 47 0 mn := by rw [u18, th_u_tag (by decide)]; exact e16
          have g19 : x16.toInt = (I18 47 0 mn).toInt := by rw [← e19]
          have e18 : x7 = I18 44 0 mn := by rw [u18, th_u_eq]
          have g18 : x7.toInt = (I18 44 0 mn).toInt := by rw [← e18]
          refine th_aload_n C dc_O_pass_90 rfl rfl ?_
          refine tq_getR C dc_O_pass_91 cl_20 fd_O_83 rfl (show 0 < 1 from by omega) rfl ?_
          refine th_iload_n C dc_O_pass_94 rfl rfl ?_
          refine th_aload_n C dc_O_pass_95 rfl rfl ?_
          refine tq_getR C dc_O_pass_96 cl_20 fd_O_64 rfl (show 0 < 1 from by omega) rfl ?_
          refine th_iload_n C dc_O_pass_99 rfl rfl ?_
          obtain ⟨n21, m21⟩ := th_nat (a := x7.toInt) (by omega)
          refine tq_ialdN C dc_O_pass_100 rfl (fun _ => rfl) (show 0 < 1 from by omega) rfl m21 (show n21 < 5 from by omega) (fun x20 e20 => ?_)
          have g20 : x20.toInt = (I18 39 0 n21).toInt := by rw [e20]
          refine tq_iastN C dc_O_pass_101 rfl (fun _ => rfl) (show 0 < 1 from by omega) rfl hmn (show mn < 3 from by omega) ?_
          refine th_gen (P := fun J => ro_ps K sl Z I mn k.toInt J ∧ J = th_u I18 45 0 mn x20) ⟨ro_psput hI18 rfl trivial, rfl⟩ (fun I22 hI22 => ?_)
          obtain ⟨hI22, u22⟩ := hI22
          have e23 : x16 = I22 47 0 mn := by rw [u22, th_u_tag (by decide)]; exact e19
          have g23 : x16.toInt = (I22 47 0 mn).toInt := by rw [← e23]
          have e24 : x7 = I22 44 0 mn := by rw [u22, th_u_tag (by decide)]; exact e18
          have g24 : x7.toInt = (I22 44 0 mn).toInt := by rw [← e24]
          have e25 : x20 = I22 39 0 n21 := by rw [u22, th_u_tag (by decide)]; exact e20
          have g25 : x20.toInt = (I22 39 0 n21).toInt := by rw [← e25]
          have e22 : x20 = I22 45 0 mn := by rw [u22, th_u_eq]
          have g22 : x20.toInt = (I22 45 0 mn).toInt := by rw [← e22]
          refine th_aload_n C dc_O_pass_102 rfl rfl ?_
          refine tq_getR C dc_O_pass_103 cl_20 fd_O_43 rfl (show 0 < 1 from by omega) rfl ?_
          refine th_iload_n C dc_O_pass_106 rfl rfl ?_
          refine th_iconst (v := 1) C dc_O_pass_107 th_c_1 ?_
          refine tq_iastN C dc_O_pass_108 rfl (fun _ => rfl) (show 0 < 1 from by omega) rfl m21 (show n21 < 5 from by omega) ?_
          refine th_gen (P := fun J => th_OI K sl Z J ∧ J = th_u I22 32 0 n21 ((1 : Int32))) ⟨ro_psend hI22 hI (by omega) (by omega) (by omega) (by omega) (by omega) th_l_1, rfl⟩ (fun I26 hI26 => ?_)
          obtain ⟨hI26, u26⟩ := hI26
          have e27 : x16 = I26 47 0 mn := by rw [u26, th_u_tag (by decide)]; exact e23
          have g27 : x16.toInt = (I26 47 0 mn).toInt := by rw [← e27]
          have e28 : x7 = I26 44 0 mn := by rw [u26, th_u_tag (by decide)]; exact e24
          have g28 : x7.toInt = (I26 44 0 mn).toInt := by rw [← e28]
          have e29 : x20 = I26 39 0 n21 := by rw [u26, th_u_tag (by decide)]; exact e25
          have g29 : x20.toInt = (I26 39 0 n21).toInt := by rw [← e29]
          have e30 : x20 = I26 45 0 mn := by rw [u26, th_u_tag (by decide)]; exact e22
          have g30 : x20.toInt = (I26 45 0 mn).toInt := by rw [← e30]
          have e26 : (1 : Int32) = I26 32 0 n21 := by rw [u26, th_u_eq]
          have g26 : 1 = (I26 32 0 n21).toInt := by rw [← e26]; exact th_l_1.symm
          exact th_vret C hQ dc_O_pass_109 (by decide) (by decide) ⟨_, rfl, rfl, hI26, (by rw [u26]; exact ro_pspost hI22 th_l_1)⟩
        · refine th_aload_n C dc_O_pass_55 rfl rfl ?_
          refine tq_getR C dc_O_pass_56 cl_20 fd_O_86 rfl (show 0 < 1 from by omega) rfl ?_
          refine th_iconst (v := 5) C dc_O_pass_59 th_c_5 ?_
          refine th_iload_n C dc_O_pass_60 rfl rfl ?_
          refine tq_imul C dc_O_pass_61 th_l_5 rfl (fun x31 e31 a31 => ?_)
          refine th_iload_n C dc_O_pass_62 rfl rfl ?_
          refine tq_iadd C dc_O_pass_63 rfl rfl (fun x32 e32 a32 => ?_)
          refine th_aload_n C dc_O_pass_64 rfl rfl ?_
          refine tq_getR C dc_O_pass_65 cl_20 fd_O_86 rfl (show 0 < 1 from by omega) rfl ?_
          refine th_iconst (v := 5) C dc_O_pass_68 th_c_5 ?_
          refine th_iload_n C dc_O_pass_69 rfl rfl ?_
          refine tq_imul C dc_O_pass_70 th_l_5 rfl (fun x33 e33 a33 => ?_)
          refine th_iload_n C dc_O_pass_71 rfl rfl ?_
          refine tq_iadd C dc_O_pass_72 rfl rfl (fun x34 e34 a34 => ?_)
          refine th_iconst (v := 1) C dc_O_pass_73 th_c_1 ?_
          refine tq_iadd C dc_O_pass_74 rfl th_l_1 (fun x35 e35 a35 => ?_)
          obtain ⟨n37, m37⟩ := th_nat (a := x35.toInt) (by omega)
          refine tq_ialdN C dc_O_pass_75 rfl (fun _ => rfl) (show 0 < 1 from by omega) rfl m37 (show n37 < 15 from by omega) (fun x36 e36 => ?_)
          have g36 : x36.toInt = (I15 46 0 n37).toInt := by rw [e36]
          have r36 : 0 ≤ x36.toInt ∧ x36.toInt ≤ 4 := by rw [e36]; exact hI15.1 46 0 n37
          obtain ⟨n38, m38⟩ := th_nat (a := x32.toInt) (by omega)
          refine tq_iastN C dc_O_pass_76 rfl (fun _ => rfl) (show 0 < 1 from by omega) rfl m38 (show n38 < 15 from by omega) ?_
          refine th_gen (P := fun J => ro_ps K sl Z I mn (k.toInt + 1) J ∧ J = th_u I15 46 0 n38 x36) ⟨ro_ps1 (b := n37) hI15 (by omega) (by omega) (by omega) e36, rfl⟩ (fun I39 hI39 => ?_)
          obtain ⟨hI39, u39⟩ := hI39
          have e40 : x16 = I39 47 0 mn := by rw [u39, th_u_tag (by decide)]; exact e16
          have g40 : x16.toInt = (I39 47 0 mn).toInt := by rw [← e40]
          have e39 : x36 = I39 46 0 n38 := by rw [u39, th_u_eq]
          have g39 : x36.toInt = (I39 46 0 n38).toInt := by rw [← e39]
          refine tq_iinc (lv' := fun rr => [(0, .inr (some (20, 0))), (1, .inl m), (2, .inl x7), (3, .inl rr)]) C dc_O_pass_77 rfl (by decide) th_c_1 rfl th_l_1 (fun rr => rfl) (fun x41 e41 a41 => ?_)
          refine th_goto (tgt := 45) C dc_O_pass_80 (by decide) ?_
          exact ih x41 I39 (ro_ps_eq hI39 (by omega)) (by omega) (by omega) (by omega)
    exact L45 _ ((0 : Int32)) I11 (ro_ps_eq hI11 th_l_0) (by have := th_l_0; omega) (by have := th_l_0; omega) (Nat.lt_succ_self _)
  · exact th_vret C hQ dc_O_pass_23 (by decide) (by decide) ⟨_, rfl, rfl, hI2, fun e => Or.inl (by rw [u2, th_u_tag (by decide), u1, th_u_tag (by decide)])⟩
end
section
def ro_ct (K sl : Int) (I : th_I) (rt r : Nat) (t n k : Int) (J : th_I) : Prop :=
  (∀ t' i q, ro_ok K sl t' i q (J t' i q).toInt) ∧ (∀ t' i q, t' ≠ rt → J t' i q = I t' i q) ∧ (∀ q : Nat, q < 5 * r ∨ 5 * (r : Int) + k ≤ (q : Int) → J rt 0 q = I rt 0 q) ∧
  (∀ a : Nat, (a : Int) < n → ∃ b : Nat, (b : Int) < k ∧ J rt 0 (5 * r + a) = I rt 0 (5 * r + b) ∧ (I rt 0 (5 * r + b)).toInt ≠ t) ∧
  (∀ a b : Nat, a < b → (b : Int) < n → (J rt 0 (5 * r + a)).toInt ≠ (J rt 0 (5 * r + b)).toInt) ∧
  (∀ q : Nat, (q : Int) < k → (I rt 0 (5 * r + q)).toInt = t → n = k - 1) ∧ ((∀ q : Nat, (q : Int) < k → (I rt 0 (5 * r + q)).toInt ≠ t) → n = k)
theorem ro_ct_eq {K sl t n k n' k' : Int} {I J : th_I} {rt r : Nat} (h : ro_ct K sl I rt r t n k J) (e : n' = n) (e2 : k' = k) : ro_ct K sl I rt r t n' k' J := by
  rw [e, e2]
  exact h
theorem ro_ct0 {K sl t : Int} {Z I : th_I} {rt r : Nat} (hI : th_OI K sl Z I) : ro_ct K sl I rt r t 0 0 I :=
  ⟨hI.1, fun _ _ _ _ => rfl, fun _ _ => rfl, fun _ h => absurd h (by omega), fun _ _ _ h => absurd h (by omega), fun _ h => absurd h (by omega), fun _ => rfl⟩
theorem ro_ct1 {K sl t n k : Int} {I J : th_I} {rt mt kt w r b : Nat} {S : Int} (h : ro_ct K sl I rt r t n k J) (hR : ro_R I rt mt kt S w) (hr : r < w) (hk : 0 ≤ k ∧ k < 5 ∧ k < (I mt 0 r).toInt) (hb : (b : Int) = 5 * (r : Int) + k) (hv : (J rt 0 b).toInt = t) : ro_ct K sl I rt r t n (k + 1) J := by
  obtain ⟨g1, g2, g3, g4, g5, g6, g7⟩ := h
  obtain ⟨kn, hkn⟩ := th_nat hk.1
  have hb2 : b = 5 * r + kn := by omega
  subst hb2
  rw [g3 _ (by omega)] at hv
  have hn : n = k := g7 (fun q hq e => hR.2 r hr q kn (by omega) (by omega) (by omega) (by rw [e, hv]))
  refine ⟨g1, g2, fun q hq => g3 q (by omega), fun a ha => ?_, g5, fun q hq e => by omega, fun q => absurd hv (q kn (by omega))⟩
  obtain ⟨c, c1, c2⟩ := g4 a ha
  exact ⟨c, by omega, c2⟩
theorem ro_ct2 {K sl t n k : Int} {I J : th_I} {rt mt kt w r a b b' : Nat} {S : Int} {v : Int32} (hu : ∀ a b x, ro_ok K sl rt 0 a x → ro_ok K sl rt 0 b x) (h : ro_ct K sl I rt r t n k J) (hR : ro_R I rt mt kt S w) (hr : r < w) (hk : 0 ≤ n ∧ n ≤ k ∧ k < 5 ∧ k < (I mt 0 r).toInt) (ha : (a : Int) = 5 * (r : Int) + n) (hb : (b : Int) = 5 * (r : Int) + k) (hb' : (b' : Int) = 5 * (r : Int) + k) (hv : v = J rt 0 b) (hne : (J rt 0 b').toInt ≠ t) : ro_ct K sl I rt r t (n + 1) (k + 1) (th_u J rt 0 a v) := by
  obtain ⟨g1, g2, g3, g4, g5, g6, g7⟩ := h
  obtain ⟨kn, hkn⟩ := th_nat (a := k) (by omega)
  obtain ⟨nn, hnn⟩ := th_nat hk.1
  have e1 : b = 5 * r + kn := by omega
  have e2 : b' = 5 * r + kn := by omega
  have e3 : a = 5 * r + nn := by omega
  subst e1 e2 e3
  have hg : J rt 0 (5 * r + kn) = I rt 0 (5 * r + kn) := g3 _ (by omega)
  refine ⟨fun t' i' k' => ?_, fun t' i' q hq => by rw [th_u_tag hq]; exact g2 t' i' q hq, fun q hq => by rw [th_u_slot (by omega)]; exact g3 q (by omega), fun c hc => ?_, fun c d hcd hd => ?_, fun q hq e => ?_, fun q => ?_⟩
  · rcases th_u_or J rt 0 (5 * r + nn) v t' i' k' with ⟨rfl, rfl, rfl, e⟩ | e
    · rw [e, hv]
      exact hu _ _ _ (g1 t' 0 (5 * r + kn))
    · rw [e]; exact g1 t' i' k'
  · by_cases q : c = nn
    · subst q
      rw [th_u_eq, hv]
      exact ⟨kn, by omega, hg, by rw [← hg]; exact hne⟩
    · rw [th_u_slot (by omega)]
      obtain ⟨x, x1, x2⟩ := g4 c (by omega)
      exact ⟨x, by omega, x2⟩
  · have hc : c ≠ nn := by omega
    rw [th_u_slot (by omega)]
    by_cases q : d = nn
    · subst q
      rw [th_u_eq, hv, hg]
      obtain ⟨x, x1, x2, x3⟩ := g4 c (by omega)
      rw [x2]
      exact hR.2 r hr x kn (by omega) (by omega) (by omega)
    · rw [th_u_slot (by omega)]
      exact g5 c d hcd (by omega)
  · by_cases c : q = kn
    · subst c
      rw [← hg] at e
      exact absurd e hne
    · have := g6 q (by omega) e
      omega
  · have := g7 (fun x hx => q x (by omega))
    omega
theorem ro_ctR {K sl n k : Int} {I J : th_I} {rt mt kt w r t : Nat} {S : Int} {x : Int32} (h : ro_ct K sl I rt r (t : Int) n k J) (hR : ro_R I rt mt kt S w) (hr : r < w) (htr : (I kt 0 t).toInt = (r : Int)) (hk : 0 ≤ n ∧ n ≤ k ∧ k ≤ 5 ∧ k ≤ (I mt 0 r).toInt) (hx : x.toInt = n) (h1 : rt ≠ mt) (h2 : 32 ≠ mt) (h3 : kt ≠ mt) (h4 : 32 ≠ rt) (h5 : kt ≠ rt) : ro_R (th_u J mt 0 r x) rt mt kt S w ∧ ro_no (th_u J mt 0 r x) rt mt w t := by
  obtain ⟨g1, g2, g3, g4, g5, g6, g7⟩ := h
  obtain ⟨nn, hnn⟩ := th_nat hk.1
  refine ro_R_cut (n := nn) hR hr htr (by omega) (fun a ha => ?_) (fun a b hab hb => by rw [th_u_tag h1, th_u_tag h1]; exact g5 a b hab (by omega)) (fun a ha => ?_) (fun q a hq ha => by rw [th_u_tag h1]; exact g3 (5 * q + a) (by omega)) (by rw [th_u_eq]; omega) (fun q hq => by rw [th_u_slot hq]; exact g2 mt 0 q (Ne.symm h1)) (fun e _ => by rw [th_u_tag h2]; exact g2 32 0 e h4) (fun e _ => by rw [th_u_tag h3]; exact g2 kt 0 e h5)
  · obtain ⟨b, b1, b2, -⟩ := g4 a (by omega)
    exact ⟨b, by omega, by omega, by rw [th_u_tag h1]; exact b2⟩
  · obtain ⟨b, b1, b2, b3⟩ := g4 a (by omega)
    rw [th_u_tag h1, b2]
    exact b3
theorem ro_ctOI {K sl n k : Int} {Z I J : th_I} {rt mt r t : Nat} {x : Int32} (h : ro_ct K sl I rt r (t : Int) n k J) (hI : th_OI K sl Z I) (hq : (rt = 48 ∧ mt = 49) ∨ (rt = 50 ∧ mt = 51)) (hx : 0 ≤ x.toInt ∧ x.toInt ≤ 5) (hR : ro_RW (th_u J mt 0 r x)) : th_OI K sl Z (th_u J mt 0 r x) := by
  obtain ⟨a1, a2, -⟩ := h
  obtain ⟨g1, g2, g3, g4, -⟩ := hI
  have f : ∀ t' i q, t' ≠ rt → t' ≠ mt → th_u J mt 0 r x t' i q = I t' i q := fun t' i q b c => by rw [th_u_tag c]; exact a2 t' i q b
  refine ⟨fun t' i' k' => ?_, fun k' => by rw [f 21 _ _ (by omega) (by omega), f 22 _ _ (by omega) (by omega), f 23 _ _ (by omega) (by omega)]; exact g2 k', g3, fun t' i' k' q => by rw [f _ _ _ (by omega) (by omega)]; exact g4 t' i' k' q, hR⟩
  rcases th_u_or J mt 0 r x t' i' k' with ⟨rfl, rfl, rfl, e⟩ | e
  · rw [e]
    rcases hq with ⟨-, rfl⟩ | ⟨-, rfl⟩
    · exact hx
    · exact hx
  · rw [e]; exact a1 t' i' k'
theorem ro_ctW {K sl n k : Int} {Z I J : th_I} {r t : Nat} {x : Int32} (h : ro_ct K sl I 48 r (t : Int) n k J) (hI : th_OI K sl Z I) (hr : r < 3) (htr : (I 40 0 t).toInt = (r : Int)) (hk : 0 ≤ n ∧ n ≤ k ∧ k ≤ 5 ∧ k ≤ (I 49 0 r).toInt) (hx : x.toInt = n) : th_OI K sl Z (th_u J 49 0 r x) ∧ ro_no (th_u J 49 0 r x) 48 49 3 t := by
  have c := ro_ctR h hI.2.2.2.2.2.1 hr htr hk hx (by decide) (by decide) (by decide) (by decide) (by decide)
  have f : ∀ t' q, t' ≠ 48 → t' ≠ 49 → th_u J 49 0 r x t' 0 q = I t' 0 q := fun t' q b d => by rw [th_u_tag d]; exact h.2.1 t' 0 q b
  refine ⟨ro_ctOI h hI (Or.inl ⟨rfl, rfl⟩) (by omega) ⟨?_, c.1, ?_, fun m hm hs => ?_⟩, c.2⟩
  · exact ro_R_frame hI.2.2.2.2.1 (fun q => f _ q (by decide) (by decide)) (fun q => f _ q (by decide) (by decide)) (fun q => f _ q (by decide) (by decide)) (fun q => f _ q (by decide) (by decide))
  · exact ro_R_frame hI.2.2.2.2.2.2.1 (fun q => f _ q (by decide) (by decide)) (fun q => f _ q (by decide) (by decide)) (fun q => f _ q (by decide) (by decide)) (fun q => f _ q (by decide) (by decide))
  · rw [f _ _ (by decide) (by decide)] at hs ⊢
    exact hI.2.2.2.2.2.2.2 m hm hs
theorem ro_ctJ {K sl n k : Int} {Z I J : th_I} {r t : Nat} {x : Int32} (h : ro_ct K sl I 50 r (t : Int) n k J) (hI : th_OI K sl Z I) (hr : r < 5) (htr : (I 40 0 t).toInt = (r : Int)) (hk : 0 ≤ n ∧ n ≤ k ∧ k ≤ 5 ∧ k ≤ (I 51 0 r).toInt) (hx : x.toInt = n) : th_OI K sl Z (th_u J 51 0 r x) ∧ ro_no (th_u J 51 0 r x) 50 51 5 t := by
  have c := ro_ctR h hI.2.2.2.2.2.2.1 hr htr hk hx (by decide) (by decide) (by decide) (by decide) (by decide)
  have f : ∀ t' q, t' ≠ 50 → t' ≠ 51 → th_u J 51 0 r x t' 0 q = I t' 0 q := fun t' q b d => by rw [th_u_tag d]; exact h.2.1 t' 0 q b
  refine ⟨ro_ctOI h hI (Or.inr ⟨rfl, rfl⟩) (by omega) ⟨?_, ?_, c.1, fun m hm hs => ?_⟩, c.2⟩
  · exact ro_R_frame hI.2.2.2.2.1 (fun q => f _ q (by decide) (by decide)) (fun q => f _ q (by decide) (by decide)) (fun q => f _ q (by decide) (by decide)) (fun q => f _ q (by decide) (by decide))
  · exact ro_R_frame hI.2.2.2.2.2.1 (fun q => f _ q (by decide) (by decide)) (fun q => f _ q (by decide) (by decide)) (fun q => f _ q (by decide) (by decide)) (fun q => f _ q (by decide) (by decide))
  · rw [f _ _ (by decide) (by decide)] at hs ⊢
    exact hI.2.2.2.2.2.2.2 m hm hs
end
section
set_option maxRecDepth 100000 in
set_option maxHeartbeats 4000000 in
theorem o_O_leaveWait (l : Launch) (hl : l.stackTraces = false) {K sl : Int} {Z : th_I} (I : th_I) (t : Int32) (tn : Nat) (hI : th_OI K sl Z I) (htn : (tn : Int) = t.toInt) (ht : 0 ≤ t.toInt ∧ t.toInt ≤ 4) (hs : (I 32 0 tn).toInt = 3) : th_F l yn_O_leaveWait cb_O_leaveWait 5 none { frames := 1, cells := 0, slots := 0, locals := 23 } [.inr (some (20, 0)), .inl t] (th_m I) (th_rv (fun J => th_OI K sl Z J ∧ (∀ r q : Nat, r < 3 → q < 5 → (q : Int) < (I 49 0 r).toInt → (I 48 0 (5 * r + q)).toInt = (tn : Int) → (J 49 0 r).toInt = (I 49 0 r).toInt - 1))) := by
  refine th_of hl (by decide +kernel) (Nat.le_of_ble_eq_true rfl) (fun z C hQ hN => ?_)
  show th_G l z 5 0 [(0, .inr (some (20, 0))), (1, .inl t)] [] (th_m I) 0 0
  have hb := hI.2.2.1
  refine th_aload_n C dc_O_leaveWait_0 rfl rfl ?_
  refine tq_getR C dc_O_leaveWait_1 cl_20 fd_O_67 rfl (show 0 < 1 from by omega) rfl ?_
  refine th_iload_n C dc_O_leaveWait_4 rfl rfl ?_
  refine tq_ialdN C dc_O_leaveWait_5 rfl (fun _ => rfl) (show 0 < 1 from by omega) rfl htn (show tn < 5 from by omega) (fun x1 e1 => ?_)
  have g1 : x1.toInt = (I 40 0 tn).toInt := by rw [e1]
  have r1 : 0 ≤ x1.toInt ∧ x1.toInt ≤ 4 := by rw [e1]; exact hI.1 40 0 tn
  obtain ⟨cn, hcn⟩ := th_nat (a := x1.toInt) (by omega)
  have hc2 : x1.toInt ≤ 2 := by have := hI.2.2.2.2.2.2.2 tn (by omega) hs; omega
  have q49 : 0 ≤ (I 49 0 cn).toInt ∧ (I 49 0 cn).toInt ≤ 5 := hI.1 49 0 cn
  refine th_istore_n (lv' := [(0, .inr (some (20, 0))), (1, .inl t), (2, .inl x1)]) C dc_O_leaveWait_6 rfl (by decide) rfl ?_
  refine th_iconst (v := 0) C dc_O_leaveWait_7 th_c_0 ?_
  refine th_istore_n (lv' := [(0, .inr (some (20, 0))), (1, .inl t), (2, .inl x1), (3, .inl ((0 : Int32)))]) C dc_O_leaveWait_8 rfl (by decide) rfl ?_
  refine th_iconst (v := 0) C dc_O_leaveWait_9 th_c_0 ?_
  refine th_istore (lv' := [(0, .inr (some (20, 0))), (1, .inl t), (2, .inl x1), (3, .inl ((0 : Int32))), (4, .inl ((0 : Int32)))]) C dc_O_leaveWait_10 (by decide) rfl ?_
  have L12 : ∀ (N : Nat) (n : Int32) (k : Int32) (I2 : th_I), (ro_ct K sl I 48 cn (tn : Int) n.toInt k.toInt I2) → (0 ≤ n.toInt ∧ n.toInt ≤ k.toInt ∧ k.toInt ≤ (I 49 0 cn).toInt) → ((I2 49 0 cn).toInt = (I 49 0 cn).toInt) → (5 - k.toInt).toNat < N → th_G l z 5 12 [(0, .inr (some (20, 0))), (1, .inl t), (2, .inl x1), (3, .inl n), (4, .inl k)] [] (th_m I2) 0 0 := by
    intro N
    induction N with
    | zero => intro n k I2 hI2 h1 h2 hm; exact absurd hm (Nat.not_lt_zero _)
    | succ N ih =>
      intro n k I2 hI2 h1 h2 hm
      refine th_iload C dc_O_leaveWait_12 rfl ?_
      refine th_aload_n C dc_O_leaveWait_14 rfl rfl ?_
      refine tq_getR C dc_O_leaveWait_15 cl_20 fd_O_95 rfl (show 0 < 1 from by omega) rfl ?_
      refine th_iload_n C dc_O_leaveWait_18 rfl rfl ?_
      refine tq_ialdN C dc_O_leaveWait_19 rfl (fun _ => rfl) (show 0 < 1 from by omega) rfl hcn (show cn < 3 from by omega) (fun x3 e3 => ?_)
      have g3 : x3.toInt = (I2 49 0 cn).toInt := by rw [e3]
      have r3 : 0 ≤ x3.toInt ∧ x3.toInt ≤ 5 := by rw [e3]; exact hI2.1 49 0 cn
      refine tq_icmp_ge (tgt := 68) C dc_O_leaveWait_20 (by decide) rfl rfl (fun c4 => ?_) (fun c4 => ?_)
      · refine th_aload_n C dc_O_leaveWait_68 rfl rfl ?_
        refine tq_getR C dc_O_leaveWait_69 cl_20 fd_O_95 rfl (show 0 < 1 from by omega) rfl ?_
        refine th_iload_n C dc_O_leaveWait_72 rfl rfl ?_
        refine th_iload_n C dc_O_leaveWait_73 rfl rfl ?_
        refine tq_iastN C dc_O_leaveWait_74 rfl (fun _ => rfl) (show 0 < 1 from by omega) rfl hcn (show cn < 3 from by omega) ?_
        refine th_gen (P := fun J => th_OI K sl Z J ∧ J = th_u I2 49 0 cn n) ⟨(ro_ctW hI2 hI (by omega) (by omega) (by omega) (by omega)).1, rfl⟩ (fun I5 hI5 => ?_)
        obtain ⟨hI5, u5⟩ := hI5
        have e5 : n = I5 49 0 cn := by rw [u5, th_u_eq]
        have g5 : n.toInt = (I5 49 0 cn).toInt := by rw [← e5]
        have s3 : (I5 32 0 tn).toInt = 3 := by rw [u5, th_u_tag (by decide), hI2.2.1 32 0 tn (by decide)]; exact hs
        have nr : ro_no I5 48 49 3 tn := by rw [u5]; exact (ro_ctW hI2 hI (by omega) (by omega) (by omega) (by omega)).2
        refine th_aload_n C dc_O_leaveWait_75 rfl rfl ?_
        refine th_iload_n C dc_O_leaveWait_76 rfl rfl ?_
        refine th_aload_n C dc_O_leaveWait_77 rfl rfl ?_
        refine tq_getR C dc_O_leaveWait_78 cl_20 fd_O_61 rfl (show 0 < 1 from by omega) rfl ?_
        refine th_iload_n C dc_O_leaveWait_81 rfl rfl ?_
        refine tq_ialdN C dc_O_leaveWait_82 rfl (fun _ => rfl) (show 0 < 1 from by omega) rfl htn (show tn < 5 from by omega) (fun x6 e6 => ?_)
        have g6 : x6.toInt = (I5 38 0 tn).toInt := by rw [e6]
        have r6 : 0 ≤ x6.toInt ∧ x6.toInt ≤ 2 := by rw [e6]; exact hI5.1 38 0 tn
        refine th_aload_n C dc_O_leaveWait_83 rfl rfl ?_
        refine tq_getR C dc_O_leaveWait_84 cl_20 fd_O_64 rfl (show 0 < 1 from by omega) rfl ?_
        refine th_iload_n C dc_O_leaveWait_87 rfl rfl ?_
        refine tq_ialdN C dc_O_leaveWait_88 rfl (fun _ => rfl) (show 0 < 1 from by omega) rfl htn (show tn < 5 from by omega) (fun x7 e7 => ?_)
        have g7 : x7.toInt = (I5 39 0 tn).toInt := by rw [e7]
        obtain ⟨n8, m8⟩ := th_nat (a := x6.toInt) (by omega)
        refine tq_callVv C (o_O_goFor l hl I5 t x6 x7 tn n8 hI5 htn m8 (by omega) (by omega) (ro_no_of hI5.2.2.2.2.1 (by omega)) nr (ro_no_of hI5.2.2.2.2.2.2.1 (by omega))) ok_O_151 cl_20 (show 0 < 1 from by omega) rfl (Nat.le_of_ble_eq_true rfl) dc_O_leaveWait_89 rfl (fun I9 p9 => ?_)
        obtain ⟨hI9, p9⟩ := p9
        exact th_vret C hQ dc_O_leaveWait_92 (by decide) (by decide) ⟨_, rfl, rfl, hI9, (by intro r q hr hq hm' e; have key := (hI.2.2.2.2.2.1.1 r hr q hq hm' tn e).2; have e2 : r = cn := (by omega); rw [e2] at hm' e ⊢; rw [p9, u5, th_u_eq]; have := hI2.2.2.2.2.2.1 q (by omega) e; omega)⟩
      · refine th_aload_n C dc_O_leaveWait_23 rfl rfl ?_
        refine tq_getR C dc_O_leaveWait_24 cl_20 fd_O_92 rfl (show 0 < 1 from by omega) rfl ?_
        refine th_iconst (v := 5) C dc_O_leaveWait_27 th_c_5 ?_
        refine th_iload_n C dc_O_leaveWait_28 rfl rfl ?_
        refine tq_imul C dc_O_leaveWait_29 th_l_5 rfl (fun x10 e10 a10 => ?_)
        refine th_iload C dc_O_leaveWait_30 rfl ?_
        refine tq_iadd C dc_O_leaveWait_32 rfl rfl (fun x11 e11 a11 => ?_)
        obtain ⟨n13, m13⟩ := th_nat (a := x11.toInt) (by omega)
        refine tq_ialdN C dc_O_leaveWait_33 rfl (fun _ => rfl) (show 0 < 1 from by omega) rfl m13 (show n13 < 15 from by omega) (fun x12 e12 => ?_)
        have g12 : x12.toInt = (I2 48 0 n13).toInt := by rw [e12]
        have r12 : 0 ≤ x12.toInt ∧ x12.toInt ≤ 4 := by rw [e12]; exact hI2.1 48 0 n13
        refine th_iload_n C dc_O_leaveWait_34 rfl rfl ?_
        refine tq_icmp_eq (tgt := 62) C dc_O_leaveWait_35 (by decide) rfl rfl (fun c14 => ?_) (fun c14 => ?_)
        · have hsk := ro_ct1 (mt := 49) (b := n13) hI2 hI.2.2.2.2.2.1 (by omega) (by omega) (by omega) (by omega)
          refine tq_iinc (lv' := fun rr => [(0, .inr (some (20, 0))), (1, .inl t), (2, .inl x1), (3, .inl n), (4, .inl rr)]) C dc_O_leaveWait_62 rfl (by decide) th_c_1 rfl th_l_1 (fun rr => rfl) (fun x15 e15 a15 => ?_)
          refine th_goto (tgt := 12) C dc_O_leaveWait_65 (by decide) ?_
          exact ih n x15 I2 (by first | exact ro_ct_eq hI2 (by omega) (by omega) | exact ro_ct_eq hsk (by omega) (by omega)) (by omega) (by omega) (by omega)
        · refine th_aload_n C dc_O_leaveWait_38 rfl rfl ?_
          refine tq_getR C dc_O_leaveWait_39 cl_20 fd_O_92 rfl (show 0 < 1 from by omega) rfl ?_
          refine th_iconst (v := 5) C dc_O_leaveWait_42 th_c_5 ?_
          refine th_iload_n C dc_O_leaveWait_43 rfl rfl ?_
          refine tq_imul C dc_O_leaveWait_44 th_l_5 rfl (fun x16 e16 a16 => ?_)
          refine th_iload_n C dc_O_leaveWait_45 rfl rfl ?_
          refine tq_iinc (lv' := fun rr => [(0, .inr (some (20, 0))), (1, .inl t), (2, .inl x1), (3, .inl rr), (4, .inl k)]) C dc_O_leaveWait_46 rfl (by decide) th_c_1 rfl th_l_1 (fun rr => rfl) (fun x17 e17 a17 => ?_)
          refine tq_iadd C dc_O_leaveWait_49 rfl rfl (fun x18 e18 a18 => ?_)
          refine th_aload_n C dc_O_leaveWait_50 rfl rfl ?_
          refine tq_getR C dc_O_leaveWait_51 cl_20 fd_O_92 rfl (show 0 < 1 from by omega) rfl ?_
          refine th_iconst (v := 5) C dc_O_leaveWait_54 th_c_5 ?_
          refine th_iload_n C dc_O_leaveWait_55 rfl rfl ?_
          refine tq_imul C dc_O_leaveWait_56 th_l_5 rfl (fun x19 e19 a19 => ?_)
          refine th_iload C dc_O_leaveWait_57 rfl ?_
          refine tq_iadd C dc_O_leaveWait_59 rfl rfl (fun x20 e20 a20 => ?_)
          obtain ⟨n22, m22⟩ := th_nat (a := x20.toInt) (by omega)
          refine tq_ialdN C dc_O_leaveWait_60 rfl (fun _ => rfl) (show 0 < 1 from by omega) rfl m22 (show n22 < 15 from by omega) (fun x21 e21 => ?_)
          have g21 : x21.toInt = (I2 48 0 n22).toInt := by rw [e21]
          have r21 : 0 ≤ x21.toInt ∧ x21.toInt ≤ 4 := by rw [e21]; exact hI2.1 48 0 n22
          obtain ⟨n23, m23⟩ := th_nat (a := x18.toInt) (by omega)
          refine tq_iastN C dc_O_leaveWait_61 rfl (fun _ => rfl) (show 0 < 1 from by omega) rfl m23 (show n23 < 15 from by omega) ?_
          refine th_gen (P := fun J => ro_ct K sl I 48 cn (tn : Int) (n.toInt + 1) (k.toInt + 1) J ∧ J = th_u I2 48 0 n23 x21) ⟨ro_ct2 (mt := 49) (b := n22) (b' := n13) (fun _ _ _ h => h) hI2 hI.2.2.2.2.2.1 (by omega) (by omega) (by omega) (by omega) (by omega) e21 (by omega), rfl⟩ (fun I24 hI24 => ?_)
          obtain ⟨hI24, u24⟩ := hI24
          have e25 : x3 = I24 49 0 cn := by rw [u24, th_u_tag (by decide)]; exact e3
          have g25 : x3.toInt = (I24 49 0 cn).toInt := by rw [← e25]
          have e24 : x21 = I24 48 0 n23 := by rw [u24, th_u_eq]
          have g24 : x21.toInt = (I24 48 0 n23).toInt := by rw [← e24]
          refine tq_iinc (lv' := fun rr => [(0, .inr (some (20, 0))), (1, .inl t), (2, .inl x1), (3, .inl x17), (4, .inl rr)]) C dc_O_leaveWait_62 rfl (by decide) th_c_1 rfl th_l_1 (fun rr => rfl) (fun x26 e26 a26 => ?_)
          refine th_goto (tgt := 12) C dc_O_leaveWait_65 (by decide) ?_
          exact ih x17 x26 I24 (by first | exact ro_ct_eq hI24 (by omega) (by omega) | exact ro_ct_eq hsk (by omega) (by omega)) (by omega) (by omega) (by omega)
  exact L12 _ ((0 : Int32)) ((0 : Int32)) I (ro_ct_eq (ro_ct0 hI) th_l_0 th_l_0) (by have := th_l_0; omega) (by have := th_l_0; omega) (Nat.lt_succ_self _)

set_option maxRecDepth 100000 in
set_option maxHeartbeats 4000000 in
theorem o_O_leaveJoin (l : Launch) (hl : l.stackTraces = false) {K sl : Int} {Z : th_I} (I : th_I) (t : Int32) (tn : Nat) (hI : th_OI K sl Z I) (htn : (tn : Int) = t.toInt) (ht : 0 ≤ t.toInt ∧ t.toInt ≤ 4) (hs : (I 32 0 tn).toInt = 4) : th_F l yn_O_leaveJoin cb_O_leaveJoin 5 none { frames := 0, cells := 0, slots := 0, locals := 0 } [.inr (some (20, 0)), .inl t] (th_m I) (th_rv (fun J => th_OI K sl Z J ∧ (True))) := by
  refine th_of hl (by decide +kernel) (Nat.le_of_ble_eq_true rfl) (fun z C hQ hN => ?_)
  show th_G l z 5 0 [(0, .inr (some (20, 0))), (1, .inl t)] [] (th_m I) 0 0
  have hb := hI.2.2.1
  refine th_aload_n C dc_O_leaveJoin_0 rfl rfl ?_
  refine tq_getR C dc_O_leaveJoin_1 cl_20 fd_O_67 rfl (show 0 < 1 from by omega) rfl ?_
  refine th_iload_n C dc_O_leaveJoin_4 rfl rfl ?_
  refine tq_ialdN C dc_O_leaveJoin_5 rfl (fun _ => rfl) (show 0 < 1 from by omega) rfl htn (show tn < 5 from by omega) (fun x1 e1 => ?_)
  have g1 : x1.toInt = (I 40 0 tn).toInt := by rw [e1]
  have r1 : 0 ≤ x1.toInt ∧ x1.toInt ≤ 4 := by rw [e1]; exact hI.1 40 0 tn
  obtain ⟨cn, hcn⟩ := th_nat (a := x1.toInt) (by omega)
  have q49 : 0 ≤ (I 51 0 cn).toInt ∧ (I 51 0 cn).toInt ≤ 5 := hI.1 51 0 cn
  refine th_istore_n (lv' := [(0, .inr (some (20, 0))), (1, .inl t), (2, .inl x1)]) C dc_O_leaveJoin_6 rfl (by decide) rfl ?_
  refine th_iconst (v := 0) C dc_O_leaveJoin_7 th_c_0 ?_
  refine th_istore_n (lv' := [(0, .inr (some (20, 0))), (1, .inl t), (2, .inl x1), (3, .inl ((0 : Int32)))]) C dc_O_leaveJoin_8 rfl (by decide) rfl ?_
  refine th_iconst (v := 0) C dc_O_leaveJoin_9 th_c_0 ?_
  refine th_istore (lv' := [(0, .inr (some (20, 0))), (1, .inl t), (2, .inl x1), (3, .inl ((0 : Int32))), (4, .inl ((0 : Int32)))]) C dc_O_leaveJoin_10 (by decide) rfl ?_
  have L12 : ∀ (N : Nat) (n : Int32) (k : Int32) (I2 : th_I), (ro_ct K sl I 50 cn (tn : Int) n.toInt k.toInt I2) → (0 ≤ n.toInt ∧ n.toInt ≤ k.toInt ∧ k.toInt ≤ (I 51 0 cn).toInt) → ((I2 51 0 cn).toInt = (I 51 0 cn).toInt) → (5 - k.toInt).toNat < N → th_G l z 5 12 [(0, .inr (some (20, 0))), (1, .inl t), (2, .inl x1), (3, .inl n), (4, .inl k)] [] (th_m I2) 0 0 := by
    intro N
    induction N with
    | zero => intro n k I2 hI2 h1 h2 hm; exact absurd hm (Nat.not_lt_zero _)
    | succ N ih =>
      intro n k I2 hI2 h1 h2 hm
      refine th_iload C dc_O_leaveJoin_12 rfl ?_
      refine th_aload_n C dc_O_leaveJoin_14 rfl rfl ?_
      refine tq_getR C dc_O_leaveJoin_15 cl_20 fd_O_101 rfl (show 0 < 1 from by omega) rfl ?_
      refine th_iload_n C dc_O_leaveJoin_18 rfl rfl ?_
      refine tq_ialdN C dc_O_leaveJoin_19 rfl (fun _ => rfl) (show 0 < 1 from by omega) rfl hcn (show cn < 5 from by omega) (fun x3 e3 => ?_)
      have g3 : x3.toInt = (I2 51 0 cn).toInt := by rw [e3]
      have r3 : 0 ≤ x3.toInt ∧ x3.toInt ≤ 5 := by rw [e3]; exact hI2.1 51 0 cn
      refine tq_icmp_ge (tgt := 68) C dc_O_leaveJoin_20 (by decide) rfl rfl (fun c4 => ?_) (fun c4 => ?_)
      · refine th_aload_n C dc_O_leaveJoin_68 rfl rfl ?_
        refine tq_getR C dc_O_leaveJoin_69 cl_20 fd_O_101 rfl (show 0 < 1 from by omega) rfl ?_
        refine th_iload_n C dc_O_leaveJoin_72 rfl rfl ?_
        refine th_iload_n C dc_O_leaveJoin_73 rfl rfl ?_
        refine tq_iastN C dc_O_leaveJoin_74 rfl (fun _ => rfl) (show 0 < 1 from by omega) rfl hcn (show cn < 5 from by omega) ?_
        refine th_gen (P := fun J => th_OI K sl Z J ∧ J = th_u I2 51 0 cn n) ⟨(ro_ctJ hI2 hI (by omega) (by omega) (by omega) (by omega)).1, rfl⟩ (fun I5 hI5 => ?_)
        obtain ⟨hI5, u5⟩ := hI5
        have e5 : n = I5 51 0 cn := by rw [u5, th_u_eq]
        have g5 : n.toInt = (I5 51 0 cn).toInt := by rw [← e5]
        have s3 : (I5 32 0 tn).toInt = 4 := by rw [u5, th_u_tag (by decide), hI2.2.1 32 0 tn (by decide)]; exact hs
        have nr : ro_no I5 50 51 5 tn := by rw [u5]; exact (ro_ctJ hI2 hI (by omega) (by omega) (by omega) (by omega)).2
        refine th_aload_n C dc_O_leaveJoin_75 rfl rfl ?_
        refine tq_getR C dc_O_leaveJoin_76 cl_20 fd_O_43 rfl (show 0 < 1 from by omega) rfl ?_
        refine th_iload_n C dc_O_leaveJoin_79 rfl rfl ?_
        refine th_iconst (v := 1) C dc_O_leaveJoin_80 th_c_1 ?_
        refine tq_iastN C dc_O_leaveJoin_81 rfl (fun _ => rfl) (show 0 < 1 from by omega) rfl htn (show tn < 5 from by omega) ?_
        refine th_gen (P := fun J => th_OI K sl Z J ∧ J = th_u I5 32 0 tn ((1 : Int32))) ⟨ro_state hI5 (ro_no_of hI5.2.2.2.2.1 (by omega)) (ro_no_of hI5.2.2.2.2.2.1 (by omega)) nr (by have := th_l_1; omega), rfl⟩ (fun I6 hI6 => ?_)
        obtain ⟨hI6, u6⟩ := hI6
        have e7 : n = I6 51 0 cn := by rw [u6, th_u_tag (by decide)]; exact e5
        have g7 : n.toInt = (I6 51 0 cn).toInt := by rw [← e7]
        have e6 : (1 : Int32) = I6 32 0 tn := by rw [u6, th_u_eq]
        have g6 : 1 = (I6 32 0 tn).toInt := by rw [← e6]; exact th_l_1.symm
        exact th_vret C hQ dc_O_leaveJoin_82 (by decide) (by decide) ⟨_, rfl, rfl, hI6, trivial⟩
      · refine th_aload_n C dc_O_leaveJoin_23 rfl rfl ?_
        refine tq_getR C dc_O_leaveJoin_24 cl_20 fd_O_98 rfl (show 0 < 1 from by omega) rfl ?_
        refine th_iconst (v := 5) C dc_O_leaveJoin_27 th_c_5 ?_
        refine th_iload_n C dc_O_leaveJoin_28 rfl rfl ?_
        refine tq_imul C dc_O_leaveJoin_29 th_l_5 rfl (fun x8 e8 a8 => ?_)
        refine th_iload C dc_O_leaveJoin_30 rfl ?_
        refine tq_iadd C dc_O_leaveJoin_32 rfl rfl (fun x9 e9 a9 => ?_)
        obtain ⟨n11, m11⟩ := th_nat (a := x9.toInt) (by omega)
        refine tq_ialdN C dc_O_leaveJoin_33 rfl (fun _ => rfl) (show 0 < 1 from by omega) rfl m11 (show n11 < 25 from by omega) (fun x10 e10 => ?_)
        have g10 : x10.toInt = (I2 50 0 n11).toInt := by rw [e10]
        have r10 : 0 ≤ x10.toInt ∧ x10.toInt ≤ 4 := by rw [e10]; exact hI2.1 50 0 n11
        refine th_iload_n C dc_O_leaveJoin_34 rfl rfl ?_
        refine tq_icmp_eq (tgt := 62) C dc_O_leaveJoin_35 (by decide) rfl rfl (fun c12 => ?_) (fun c12 => ?_)
        · have hsk := ro_ct1 (mt := 51) (b := n11) hI2 hI.2.2.2.2.2.2.1 (by omega) (by omega) (by omega) (by omega)
          refine tq_iinc (lv' := fun rr => [(0, .inr (some (20, 0))), (1, .inl t), (2, .inl x1), (3, .inl n), (4, .inl rr)]) C dc_O_leaveJoin_62 rfl (by decide) th_c_1 rfl th_l_1 (fun rr => rfl) (fun x13 e13 a13 => ?_)
          refine th_goto (tgt := 12) C dc_O_leaveJoin_65 (by decide) ?_
          exact ih n x13 I2 (by first | exact ro_ct_eq hI2 (by omega) (by omega) | exact ro_ct_eq hsk (by omega) (by omega)) (by omega) (by omega) (by omega)
        · refine th_aload_n C dc_O_leaveJoin_38 rfl rfl ?_
          refine tq_getR C dc_O_leaveJoin_39 cl_20 fd_O_98 rfl (show 0 < 1 from by omega) rfl ?_
          refine th_iconst (v := 5) C dc_O_leaveJoin_42 th_c_5 ?_
          refine th_iload_n C dc_O_leaveJoin_43 rfl rfl ?_
          refine tq_imul C dc_O_leaveJoin_44 th_l_5 rfl (fun x14 e14 a14 => ?_)
          refine th_iload_n C dc_O_leaveJoin_45 rfl rfl ?_
          refine tq_iinc (lv' := fun rr => [(0, .inr (some (20, 0))), (1, .inl t), (2, .inl x1), (3, .inl rr), (4, .inl k)]) C dc_O_leaveJoin_46 rfl (by decide) th_c_1 rfl th_l_1 (fun rr => rfl) (fun x15 e15 a15 => ?_)
          refine tq_iadd C dc_O_leaveJoin_49 rfl rfl (fun x16 e16 a16 => ?_)
          refine th_aload_n C dc_O_leaveJoin_50 rfl rfl ?_
          refine tq_getR C dc_O_leaveJoin_51 cl_20 fd_O_98 rfl (show 0 < 1 from by omega) rfl ?_
          refine th_iconst (v := 5) C dc_O_leaveJoin_54 th_c_5 ?_
          refine th_iload_n C dc_O_leaveJoin_55 rfl rfl ?_
          refine tq_imul C dc_O_leaveJoin_56 th_l_5 rfl (fun x17 e17 a17 => ?_)
          refine th_iload C dc_O_leaveJoin_57 rfl ?_
          refine tq_iadd C dc_O_leaveJoin_59 rfl rfl (fun x18 e18 a18 => ?_)
          obtain ⟨n20, m20⟩ := th_nat (a := x18.toInt) (by omega)
          refine tq_ialdN C dc_O_leaveJoin_60 rfl (fun _ => rfl) (show 0 < 1 from by omega) rfl m20 (show n20 < 25 from by omega) (fun x19 e19 => ?_)
          have g19 : x19.toInt = (I2 50 0 n20).toInt := by rw [e19]
          have r19 : 0 ≤ x19.toInt ∧ x19.toInt ≤ 4 := by rw [e19]; exact hI2.1 50 0 n20
          obtain ⟨n21, m21⟩ := th_nat (a := x16.toInt) (by omega)
          refine tq_iastN C dc_O_leaveJoin_61 rfl (fun _ => rfl) (show 0 < 1 from by omega) rfl m21 (show n21 < 25 from by omega) ?_
          refine th_gen (P := fun J => ro_ct K sl I 50 cn (tn : Int) (n.toInt + 1) (k.toInt + 1) J ∧ J = th_u I2 50 0 n21 x19) ⟨ro_ct2 (mt := 51) (b := n20) (b' := n11) (fun _ _ _ h => h) hI2 hI.2.2.2.2.2.2.1 (by omega) (by omega) (by omega) (by omega) (by omega) e19 (by omega), rfl⟩ (fun I22 hI22 => ?_)
          obtain ⟨hI22, u22⟩ := hI22
          have e23 : x3 = I22 51 0 cn := by rw [u22, th_u_tag (by decide)]; exact e3
          have g23 : x3.toInt = (I22 51 0 cn).toInt := by rw [← e23]
          have e22 : x19 = I22 50 0 n21 := by rw [u22, th_u_eq]
          have g22 : x19.toInt = (I22 50 0 n21).toInt := by rw [← e22]
          refine tq_iinc (lv' := fun rr => [(0, .inr (some (20, 0))), (1, .inl t), (2, .inl x1), (3, .inl x15), (4, .inl rr)]) C dc_O_leaveJoin_62 rfl (by decide) th_c_1 rfl th_l_1 (fun rr => rfl) (fun x24 e24 a24 => ?_)
          refine th_goto (tgt := 12) C dc_O_leaveJoin_65 (by decide) ?_
          exact ih x15 x24 I22 (by first | exact ro_ct_eq hI22 (by omega) (by omega) | exact ro_ct_eq hsk (by omega) (by omega)) (by omega) (by omega) (by omega)
  exact L12 _ ((0 : Int32)) ((0 : Int32)) I (ro_ct_eq (ro_ct0 hI) th_l_0 th_l_0) (by have := th_l_0; omega) (by have := th_l_0; omega) (Nat.lt_succ_self _)
end
