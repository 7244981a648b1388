section
-- ===== PART A: goes FIRST, ahead of the names: the tables' words, and 'selects' of the private methods out of them =====
/-- a private method of a class that the tables say can be made, by its rows of tables_1 -/
def lw_okq (q : MethodName × Nat) : Prop := (q.1.cls ≠ "java/lang/invoke/MethodHandle" ∧ q.1.cls ≠ "java/lang/invoke/VarHandle") ∧ Cond.instantiable q.1.cls q.2 ∈ tables_1 ∧ Cond.privateMethod q.1 ∈ tables_1 ∧ Cond.instanceMethod q.1 ∈ tables_1
theorem lw_p0 : lw_okq (⟨"java/lang/Throwable", "fillInStackTrace", "(I)Ljava/lang/Throwable;"⟩, 6) := ⟨⟨by decide +kernel, by decide +kernel⟩, List.mem_of_getElem? (i := 259) (by decide +kernel), List.mem_of_getElem? (i := 257) (by decide +kernel), List.mem_of_getElem? (i := 258) (by decide +kernel)⟩
theorem lw_p1 : lw_okq (⟨"ParleyRoom", "draft", "(IIIIII)LParleyRoom$Turn;"⟩, 10) := ⟨⟨by decide +kernel, by decide +kernel⟩, List.mem_of_getElem? (i := 23) (by decide +kernel), List.mem_of_getElem? (i := 361) (by decide +kernel), List.mem_of_getElem? (i := 362) (by decide +kernel)⟩
theorem lw_p2 : lw_okq (⟨"ParleyRoom", "isWellTold", "(LParleyRoom$Turn;)Z"⟩, 10) := ⟨⟨by decide +kernel, by decide +kernel⟩, List.mem_of_getElem? (i := 23) (by decide +kernel), List.mem_of_getElem? (i := 421) (by decide +kernel), List.mem_of_getElem? (i := 422) (by decide +kernel)⟩
theorem lw_p3 : lw_okq (⟨"ParleyRoom", "turnAt", "(I)LParleyRoom$Turn;"⟩, 10) := ⟨⟨by decide +kernel, by decide +kernel⟩, List.mem_of_getElem? (i := 23) (by decide +kernel), List.mem_of_getElem? (i := 433) (by decide +kernel), List.mem_of_getElem? (i := 434) (by decide +kernel)⟩
theorem lw_p4 : lw_okq (⟨"ParleyRoom", "canBeSaid", "(LParleyRoom$Turn;)Z"⟩, 10) := ⟨⟨by decide +kernel, by decide +kernel⟩, List.mem_of_getElem? (i := 23) (by decide +kernel), List.mem_of_getElem? (i := 441) (by decide +kernel), List.mem_of_getElem? (i := 442) (by decide +kernel)⟩
theorem lw_p5 : lw_okq (⟨"ParleyRoom", "isPossible", "(LParleyRoom$Turn;)Z"⟩, 10) := ⟨⟨by decide +kernel, by decide +kernel⟩, List.mem_of_getElem? (i := 23) (by decide +kernel), List.mem_of_getElem? (i := 445) (by decide +kernel), List.mem_of_getElem? (i := 446) (by decide +kernel)⟩
theorem lw_p6 : lw_okq (⟨"ParleyRoom", "topQuestion", "()LParleyRoom$Turn;"⟩, 10) := ⟨⟨by decide +kernel, by decide +kernel⟩, List.mem_of_getElem? (i := 23) (by decide +kernel), List.mem_of_getElem? (i := 449) (by decide +kernel), List.mem_of_getElem? (i := 450) (by decide +kernel)⟩
theorem lw_p7 : lw_okq (⟨"ParleyRoom", "bothOwn", "(LParleyRoom$Turn;)Z"⟩, 10) := ⟨⟨by decide +kernel, by decide +kernel⟩, List.mem_of_getElem? (i := 23) (by decide +kernel), List.mem_of_getElem? (i := 462) (by decide +kernel), List.mem_of_getElem? (i := 463) (by decide +kernel)⟩
theorem lw_p8 : lw_okq (⟨"ParleyRoom", "ownsAll", "(II)Z"⟩, 10) := ⟨⟨by decide +kernel, by decide +kernel⟩, List.mem_of_getElem? (i := 23) (by decide +kernel), List.mem_of_getElem? (i := 466) (by decide +kernel), List.mem_of_getElem? (i := 467) (by decide +kernel)⟩
theorem lw_p9 : lw_okq (⟨"ParleyRoom", "isPermitted", "(LParleyRoom$Turn;)Z"⟩, 10) := ⟨⟨by decide +kernel, by decide +kernel⟩, List.mem_of_getElem? (i := 23) (by decide +kernel), List.mem_of_getElem? (i := 485) (by decide +kernel), List.mem_of_getElem? (i := 486) (by decide +kernel)⟩
theorem lw_p10 : lw_okq (⟨"java/util/ArrayList", "add", "(Ljava/lang/Object;[Ljava/lang/Object;I)V"⟩, 3) := ⟨⟨by decide +kernel, by decide +kernel⟩, List.mem_of_getElem? (i := 33) (by decide +kernel), List.mem_of_getElem? (i := 521) (by decide +kernel), List.mem_of_getElem? (i := 522) (by decide +kernel)⟩
theorem lw_p11 : lw_okq (⟨"java/util/ArrayList", "grow", "()[Ljava/lang/Object;"⟩, 3) := ⟨⟨by decide +kernel, by decide +kernel⟩, List.mem_of_getElem? (i := 33) (by decide +kernel), List.mem_of_getElem? (i := 525) (by decide +kernel), List.mem_of_getElem? (i := 526) (by decide +kernel)⟩
theorem lw_p12 : lw_okq (⟨"java/util/ArrayList", "grow", "(I)[Ljava/lang/Object;"⟩, 3) := ⟨⟨by decide +kernel, by decide +kernel⟩, List.mem_of_getElem? (i := 33) (by decide +kernel), List.mem_of_getElem? (i := 529) (by decide +kernel), List.mem_of_getElem? (i := 530) (by decide +kernel)⟩
theorem lw_p13 : lw_okq (⟨"ParleyRoom", "carryOutAcks", "()V"⟩, 10) := ⟨⟨by decide +kernel, by decide +kernel⟩, List.mem_of_getElem? (i := 23) (by decide +kernel), List.mem_of_getElem? (i := 580) (by decide +kernel), List.mem_of_getElem? (i := 581) (by decide +kernel)⟩
theorem lw_p14 : lw_okq (⟨"ParleyRoom", "carryOut", "(LParleyRoom$Turn;)V"⟩, 10) := ⟨⟨by decide +kernel, by decide +kernel⟩, List.mem_of_getElem? (i := 23) (by decide +kernel), List.mem_of_getElem? (i := 584) (by decide +kernel), List.mem_of_getElem? (i := 585) (by decide +kernel)⟩
theorem lw_p15 : lw_okq (⟨"ParleyRoom", "deliver", "(LParleyRoom$Turn;)V"⟩, 10) := ⟨⟨by decide +kernel, by decide +kernel⟩, List.mem_of_getElem? (i := 23) (by decide +kernel), List.mem_of_getElem? (i := 588) (by decide +kernel), List.mem_of_getElem? (i := 589) (by decide +kernel)⟩
def lw_privs_1 : List (MethodName × Nat) := [(⟨"java/lang/Throwable", "fillInStackTrace", "(I)Ljava/lang/Throwable;"⟩, 6), (⟨"ParleyRoom", "draft", "(IIIIII)LParleyRoom$Turn;"⟩, 10), (⟨"ParleyRoom", "isWellTold", "(LParleyRoom$Turn;)Z"⟩, 10), (⟨"ParleyRoom", "turnAt", "(I)LParleyRoom$Turn;"⟩, 10), (⟨"ParleyRoom", "canBeSaid", "(LParleyRoom$Turn;)Z"⟩, 10), (⟨"ParleyRoom", "isPossible", "(LParleyRoom$Turn;)Z"⟩, 10), (⟨"ParleyRoom", "topQuestion", "()LParleyRoom$Turn;"⟩, 10), (⟨"ParleyRoom", "bothOwn", "(LParleyRoom$Turn;)Z"⟩, 10), (⟨"ParleyRoom", "ownsAll", "(II)Z"⟩, 10), (⟨"ParleyRoom", "isPermitted", "(LParleyRoom$Turn;)Z"⟩, 10), (⟨"java/util/ArrayList", "add", "(Ljava/lang/Object;[Ljava/lang/Object;I)V"⟩, 3), (⟨"java/util/ArrayList", "grow", "()[Ljava/lang/Object;"⟩, 3), (⟨"java/util/ArrayList", "grow", "(I)[Ljava/lang/Object;"⟩, 3), (⟨"ParleyRoom", "carryOutAcks", "()V"⟩, 10), (⟨"ParleyRoom", "carryOut", "(LParleyRoom$Turn;)V"⟩, 10), (⟨"ParleyRoom", "deliver", "(LParleyRoom$Turn;)V"⟩, 10)]
theorem lw_r1 : ∀ q ∈ lw_privs_1, lw_okq q := List.forall_mem_cons.mpr ⟨lw_p0, List.forall_mem_cons.mpr ⟨lw_p1, List.forall_mem_cons.mpr ⟨lw_p2, List.forall_mem_cons.mpr ⟨lw_p3, List.forall_mem_cons.mpr ⟨lw_p4, List.forall_mem_cons.mpr ⟨lw_p5, List.forall_mem_cons.mpr ⟨lw_p6, List.forall_mem_cons.mpr ⟨lw_p7, List.forall_mem_cons.mpr ⟨lw_p8, List.forall_mem_cons.mpr ⟨lw_p9, List.forall_mem_cons.mpr ⟨lw_p10, List.forall_mem_cons.mpr ⟨lw_p11, List.forall_mem_cons.mpr ⟨lw_p12, List.forall_mem_cons.mpr ⟨lw_p13, List.forall_mem_cons.mpr ⟨lw_p14, List.forall_mem_cons.mpr ⟨lw_p15, fun _ h => absurd h List.not_mem_nil⟩⟩⟩⟩⟩⟩⟩⟩⟩⟩⟩⟩⟩⟩⟩⟩
theorem lw_p16 : lw_okq (⟨"ParleyRoom", "reachOf", "(LParleyRoom$Turn;LParleyRoom$Speaker;)I"⟩, 10) := ⟨⟨by decide +kernel, by decide +kernel⟩, List.mem_of_getElem? (i := 23) (by decide +kernel), List.mem_of_getElem? (i := 592) (by decide +kernel), List.mem_of_getElem? (i := 593) (by decide +kernel)⟩
theorem lw_p17 : lw_okq (⟨"ParleyRoom", "isDoubted", "(LParleyRoom$Turn;)Z"⟩, 10) := ⟨⟨by decide +kernel, by decide +kernel⟩, List.mem_of_getElem? (i := 23) (by decide +kernel), List.mem_of_getElem? (i := 605) (by decide +kernel), List.mem_of_getElem? (i := 606) (by decide +kernel)⟩
theorem lw_p18 : lw_okq (⟨"ParleyRoom", "commitOwn", "(LParleyRoom$Turn;II)V"⟩, 10) := ⟨⟨by decide +kernel, by decide +kernel⟩, List.mem_of_getElem? (i := 23) (by decide +kernel), List.mem_of_getElem? (i := 609) (by decide +kernel), List.mem_of_getElem? (i := 610) (by decide +kernel)⟩
theorem lw_p19 : lw_okq (⟨"ParleyRoom", "commit", "(LParleyRoom$Speaker;IILParleyRoom$Turn;)V"⟩, 10) := ⟨⟨by decide +kernel, by decide +kernel⟩, List.mem_of_getElem? (i := 23) (by decide +kernel), List.mem_of_getElem? (i := 616) (by decide +kernel), List.mem_of_getElem? (i := 617) (by decide +kernel)⟩
theorem lw_p20 : lw_okq (⟨"ParleyRoom", "endSettledQuarrels", "(I)V"⟩, 10) := ⟨⟨by decide +kernel, by decide +kernel⟩, List.mem_of_getElem? (i := 23) (by decide +kernel), List.mem_of_getElem? (i := 639) (by decide +kernel), List.mem_of_getElem? (i := 640) (by decide +kernel)⟩
theorem lw_p21 : lw_okq (⟨"ParleyRoom", "perform", "(LParleyRoom$Turn;)V"⟩, 10) := ⟨⟨by decide +kernel, by decide +kernel⟩, List.mem_of_getElem? (i := 23) (by decide +kernel), List.mem_of_getElem? (i := 643) (by decide +kernel), List.mem_of_getElem? (i := 644) (by decide +kernel)⟩
theorem lw_p22 : lw_okq (⟨"ParleyRoom", "assertAtom", "(LParleyRoom$Turn;)V"⟩, 10) := ⟨⟨by decide +kernel, by decide +kernel⟩, List.mem_of_getElem? (i := 23) (by decide +kernel), List.mem_of_getElem? (i := 647) (by decide +kernel), List.mem_of_getElem? (i := 648) (by decide +kernel)⟩
theorem lw_p23 : lw_okq (⟨"ParleyRoom", "closeTopQuestion", "()V"⟩, 10) := ⟨⟨by decide +kernel, by decide +kernel⟩, List.mem_of_getElem? (i := 23) (by decide +kernel), List.mem_of_getElem? (i := 651) (by decide +kernel), List.mem_of_getElem? (i := 652) (by decide +kernel)⟩
theorem lw_p24 : lw_okq (⟨"java/util/ArrayList", "fastRemove", "([Ljava/lang/Object;I)V"⟩, 3) := ⟨⟨by decide +kernel, by decide +kernel⟩, List.mem_of_getElem? (i := 33) (by decide +kernel), List.mem_of_getElem? (i := 659) (by decide +kernel), List.mem_of_getElem? (i := 660) (by decide +kernel)⟩
theorem lw_p25 : lw_okq (⟨"ParleyRoom", "entitle", "(I)V"⟩, 10) := ⟨⟨by decide +kernel, by decide +kernel⟩, List.mem_of_getElem? (i := 23) (by decide +kernel), List.mem_of_getElem? (i := 664) (by decide +kernel), List.mem_of_getElem? (i := 665) (by decide +kernel)⟩
theorem lw_p26 : lw_okq (⟨"ParleyRoom", "answerTopQuestion", "(LParleyRoom$Turn;)V"⟩, 10) := ⟨⟨by decide +kernel, by decide +kernel⟩, List.mem_of_getElem? (i := 23) (by decide +kernel), List.mem_of_getElem? (i := 668) (by decide +kernel), List.mem_of_getElem? (i := 669) (by decide +kernel)⟩
theorem lw_p27 : lw_okq (⟨"ParleyRoom", "giveReason", "(LParleyRoom$Turn;)V"⟩, 10) := ⟨⟨by decide +kernel, by decide +kernel⟩, List.mem_of_getElem? (i := 23) (by decide +kernel), List.mem_of_getElem? (i := 672) (by decide +kernel), List.mem_of_getElem? (i := 673) (by decide +kernel)⟩
theorem lw_p28 : lw_okq (⟨"ParleyRoom", "openOffer", "(LParleyRoom$Turn;)V"⟩, 10) := ⟨⟨by decide +kernel, by decide +kernel⟩, List.mem_of_getElem? (i := 23) (by decide +kernel), List.mem_of_getElem? (i := 676) (by decide +kernel), List.mem_of_getElem? (i := 677) (by decide +kernel)⟩
theorem lw_p29 : lw_okq (⟨"ParleyRoom", "performReply", "(LParleyRoom$Turn;LParleyRoom$Turn;)V"⟩, 10) := ⟨⟨by decide +kernel, by decide +kernel⟩, List.mem_of_getElem? (i := 23) (by decide +kernel), List.mem_of_getElem? (i := 680) (by decide +kernel), List.mem_of_getElem? (i := 681) (by decide +kernel)⟩
theorem lw_p30 : lw_okq (⟨"ParleyRoom", "denyClaim", "(LParleyRoom$Turn;LParleyRoom$Turn;)V"⟩, 10) := ⟨⟨by decide +kernel, by decide +kernel⟩, List.mem_of_getElem? (i := 23) (by decide +kernel), List.mem_of_getElem? (i := 684) (by decide +kernel), List.mem_of_getElem? (i := 685) (by decide +kernel)⟩
theorem lw_p31 : lw_okq (⟨"ParleyRoom", "acceptOffer", "(LParleyRoom$Turn;LParleyRoom$Turn;)V"⟩, 10) := ⟨⟨by decide +kernel, by decide +kernel⟩, List.mem_of_getElem? (i := 23) (by decide +kernel), List.mem_of_getElem? (i := 688) (by decide +kernel), List.mem_of_getElem? (i := 689) (by decide +kernel)⟩
def lw_privs_2 : List (MethodName × Nat) := [(⟨"ParleyRoom", "reachOf", "(LParleyRoom$Turn;LParleyRoom$Speaker;)I"⟩, 10), (⟨"ParleyRoom", "isDoubted", "(LParleyRoom$Turn;)Z"⟩, 10), (⟨"ParleyRoom", "commitOwn", "(LParleyRoom$Turn;II)V"⟩, 10), (⟨"ParleyRoom", "commit", "(LParleyRoom$Speaker;IILParleyRoom$Turn;)V"⟩, 10), (⟨"ParleyRoom", "endSettledQuarrels", "(I)V"⟩, 10), (⟨"ParleyRoom", "perform", "(LParleyRoom$Turn;)V"⟩, 10), (⟨"ParleyRoom", "assertAtom", "(LParleyRoom$Turn;)V"⟩, 10), (⟨"ParleyRoom", "closeTopQuestion", "()V"⟩, 10), (⟨"java/util/ArrayList", "fastRemove", "([Ljava/lang/Object;I)V"⟩, 3), (⟨"ParleyRoom", "entitle", "(I)V"⟩, 10), (⟨"ParleyRoom", "answerTopQuestion", "(LParleyRoom$Turn;)V"⟩, 10), (⟨"ParleyRoom", "giveReason", "(LParleyRoom$Turn;)V"⟩, 10), (⟨"ParleyRoom", "openOffer", "(LParleyRoom$Turn;)V"⟩, 10), (⟨"ParleyRoom", "performReply", "(LParleyRoom$Turn;LParleyRoom$Turn;)V"⟩, 10), (⟨"ParleyRoom", "denyClaim", "(LParleyRoom$Turn;LParleyRoom$Turn;)V"⟩, 10), (⟨"ParleyRoom", "acceptOffer", "(LParleyRoom$Turn;LParleyRoom$Turn;)V"⟩, 10)]
theorem lw_r2 : ∀ q ∈ lw_privs_2, lw_okq q := List.forall_mem_cons.mpr ⟨lw_p16, List.forall_mem_cons.mpr ⟨lw_p17, List.forall_mem_cons.mpr ⟨lw_p18, List.forall_mem_cons.mpr ⟨lw_p19, List.forall_mem_cons.mpr ⟨lw_p20, List.forall_mem_cons.mpr ⟨lw_p21, List.forall_mem_cons.mpr ⟨lw_p22, List.forall_mem_cons.mpr ⟨lw_p23, List.forall_mem_cons.mpr ⟨lw_p24, List.forall_mem_cons.mpr ⟨lw_p25, List.forall_mem_cons.mpr ⟨lw_p26, List.forall_mem_cons.mpr ⟨lw_p27, List.forall_mem_cons.mpr ⟨lw_p28, List.forall_mem_cons.mpr ⟨lw_p29, List.forall_mem_cons.mpr ⟨lw_p30, List.forall_mem_cons.mpr ⟨lw_p31, fun _ h => absurd h List.not_mem_nil⟩⟩⟩⟩⟩⟩⟩⟩⟩⟩⟩⟩⟩⟩⟩⟩
theorem lw_p32 : lw_okq (⟨"ParleyRoom", "handOver", "(II)V"⟩, 10) := ⟨⟨by decide +kernel, by decide +kernel⟩, List.mem_of_getElem? (i := 23) (by decide +kernel), List.mem_of_getElem? (i := 692) (by decide +kernel), List.mem_of_getElem? (i := 693) (by decide +kernel)⟩
theorem lw_p33 : lw_okq (⟨"ParleyRoom", "turnWithFloor", "()LParleyRoom$Turn;"⟩, 10) := ⟨⟨by decide +kernel, by decide +kernel⟩, List.mem_of_getElem? (i := 23) (by decide +kernel), List.mem_of_getElem? (i := 696) (by decide +kernel), List.mem_of_getElem? (i := 697) (by decide +kernel)⟩
theorem lw_p34 : lw_okq (⟨"ParleyRoom", "loseWhatIsStillSaid", "()V"⟩, 10) := ⟨⟨by decide +kernel, by decide +kernel⟩, List.mem_of_getElem? (i := 23) (by decide +kernel), List.mem_of_getElem? (i := 701) (by decide +kernel), List.mem_of_getElem? (i := 702) (by decide +kernel)⟩
theorem lw_p35 : lw_okq (⟨"ParleyRoom", "hearWhatComesLate", "()V"⟩, 10) := ⟨⟨by decide +kernel, by decide +kernel⟩, List.mem_of_getElem? (i := 23) (by decide +kernel), List.mem_of_getElem? (i := 705) (by decide +kernel), List.mem_of_getElem? (i := 706) (by decide +kernel)⟩
theorem lw_p36 : lw_okq (⟨"ParleyRoom", "endHints", "()V"⟩, 10) := ⟨⟨by decide +kernel, by decide +kernel⟩, List.mem_of_getElem? (i := 23) (by decide +kernel), List.mem_of_getElem? (i := 709) (by decide +kernel), List.mem_of_getElem? (i := 710) (by decide +kernel)⟩
theorem lw_p37 : lw_okq (⟨"ParleyRoom", "closeOverdueOffers", "()V"⟩, 10) := ⟨⟨by decide +kernel, by decide +kernel⟩, List.mem_of_getElem? (i := 23) (by decide +kernel), List.mem_of_getElem? (i := 713) (by decide +kernel), List.mem_of_getElem? (i := 714) (by decide +kernel)⟩
theorem lw_p38 : lw_okq (⟨"ParleyRoom", "countSilence", "()V"⟩, 10) := ⟨⟨by decide +kernel, by decide +kernel⟩, List.mem_of_getElem? (i := 23) (by decide +kernel), List.mem_of_getElem? (i := 717) (by decide +kernel), List.mem_of_getElem? (i := 718) (by decide +kernel)⟩
theorem lw_p39 : lw_okq (⟨"ParleyRoom", "isAcceptedBySilence", "(LParleyRoom$Turn;LParleyRoom$Speaker;)Z"⟩, 10) := ⟨⟨by decide +kernel, by decide +kernel⟩, List.mem_of_getElem? (i := 23) (by decide +kernel), List.mem_of_getElem? (i := 721) (by decide +kernel), List.mem_of_getElem? (i := 722) (by decide +kernel)⟩
theorem lw_p40 : lw_okq (⟨"ParleyRoom", "isGround", "(III)Z"⟩, 10) := ⟨⟨by decide +kernel, by decide +kernel⟩, List.mem_of_getElem? (i := 23) (by decide +kernel), List.mem_of_getElem? (i := 790) (by decide +kernel), List.mem_of_getElem? (i := 791) (by decide +kernel)⟩
theorem lw_p41 : lw_okq (⟨"ParleyRoom", "areWith", "(LParleyRoom$Speaker;II)Z"⟩, 10) := ⟨⟨by decide +kernel, by decide +kernel⟩, List.mem_of_getElem? (i := 23) (by decide +kernel), List.mem_of_getElem? (i := 794) (by decide +kernel), List.mem_of_getElem? (i := 795) (by decide +kernel)⟩
theorem lw_p42 : lw_okq (⟨"ParleyRoomModel", "goes", "(ZZZ)Z"⟩, 36) := ⟨⟨by decide +kernel, by decide +kernel⟩, List.mem_of_getElem? (i := 814) (by decide +kernel), List.mem_of_getElem? (i := 944) (by decide +kernel), List.mem_of_getElem? (i := 945) (by decide +kernel)⟩
theorem lw_p43 : lw_okq (⟨"ParleyRoomModel", "isTold", "(IIIIII)Z"⟩, 36) := ⟨⟨by decide +kernel, by decide +kernel⟩, List.mem_of_getElem? (i := 814) (by decide +kernel), List.mem_of_getElem? (i := 978) (by decide +kernel), List.mem_of_getElem? (i := 979) (by decide +kernel)⟩
theorem lw_p44 : lw_okq (⟨"ParleyRoomModel", "canSay", "(IIIII)Z"⟩, 36) := ⟨⟨by decide +kernel, by decide +kernel⟩, List.mem_of_getElem? (i := 814) (by decide +kernel), List.mem_of_getElem? (i := 991) (by decide +kernel), List.mem_of_getElem? (i := 992) (by decide +kernel)⟩
theorem lw_p45 : lw_okq (⟨"ParleyRoomModel", "isPossible", "(IIIII)Z"⟩, 36) := ⟨⟨by decide +kernel, by decide +kernel⟩, List.mem_of_getElem? (i := 814) (by decide +kernel), List.mem_of_getElem? (i := 995) (by decide +kernel), List.mem_of_getElem? (i := 996) (by decide +kernel)⟩
theorem lw_p46 : lw_okq (⟨"ParleyRoomModel", "topAsked", "()I"⟩, 36) := ⟨⟨by decide +kernel, by decide +kernel⟩, List.mem_of_getElem? (i := 814) (by decide +kernel), List.mem_of_getElem? (i := 999) (by decide +kernel), List.mem_of_getElem? (i := 1000) (by decide +kernel)⟩
theorem lw_p47 : lw_okq (⟨"ParleyRoomModel", "isMissed", "(I)Z"⟩, 36) := ⟨⟨by decide +kernel, by decide +kernel⟩, List.mem_of_getElem? (i := 814) (by decide +kernel), List.mem_of_getElem? (i := 1003) (by decide +kernel), List.mem_of_getElem? (i := 1004) (by decide +kernel)⟩
def lw_privs_3 : List (MethodName × Nat) := [(⟨"ParleyRoom", "handOver", "(II)V"⟩, 10), (⟨"ParleyRoom", "turnWithFloor", "()LParleyRoom$Turn;"⟩, 10), (⟨"ParleyRoom", "loseWhatIsStillSaid", "()V"⟩, 10), (⟨"ParleyRoom", "hearWhatComesLate", "()V"⟩, 10), (⟨"ParleyRoom", "endHints", "()V"⟩, 10), (⟨"ParleyRoom", "closeOverdueOffers", "()V"⟩, 10), (⟨"ParleyRoom", "countSilence", "()V"⟩, 10), (⟨"ParleyRoom", "isAcceptedBySilence", "(LParleyRoom$Turn;LParleyRoom$Speaker;)Z"⟩, 10), (⟨"ParleyRoom", "isGround", "(III)Z"⟩, 10), (⟨"ParleyRoom", "areWith", "(LParleyRoom$Speaker;II)Z"⟩, 10), (⟨"ParleyRoomModel", "goes", "(ZZZ)Z"⟩, 36), (⟨"ParleyRoomModel", "isTold", "(IIIIII)Z"⟩, 36), (⟨"ParleyRoomModel", "canSay", "(IIIII)Z"⟩, 36), (⟨"ParleyRoomModel", "isPossible", "(IIIII)Z"⟩, 36), (⟨"ParleyRoomModel", "topAsked", "()I"⟩, 36), (⟨"ParleyRoomModel", "isMissed", "(I)Z"⟩, 36)]
theorem lw_r3 : ∀ q ∈ lw_privs_3, lw_okq q := List.forall_mem_cons.mpr ⟨lw_p32, List.forall_mem_cons.mpr ⟨lw_p33, List.forall_mem_cons.mpr ⟨lw_p34, List.forall_mem_cons.mpr ⟨lw_p35, List.forall_mem_cons.mpr ⟨lw_p36, List.forall_mem_cons.mpr ⟨lw_p37, List.forall_mem_cons.mpr ⟨lw_p38, List.forall_mem_cons.mpr ⟨lw_p39, List.forall_mem_cons.mpr ⟨lw_p40, List.forall_mem_cons.mpr ⟨lw_p41, List.forall_mem_cons.mpr ⟨lw_p42, List.forall_mem_cons.mpr ⟨lw_p43, List.forall_mem_cons.mpr ⟨lw_p44, List.forall_mem_cons.mpr ⟨lw_p45, List.forall_mem_cons.mpr ⟨lw_p46, List.forall_mem_cons.mpr ⟨lw_p47, fun _ h => absurd h List.not_mem_nil⟩⟩⟩⟩⟩⟩⟩⟩⟩⟩⟩⟩⟩⟩⟩⟩
theorem lw_p48 : lw_okq (⟨"ParleyRoomModel", "isClaim", "(I)Z"⟩, 36) := ⟨⟨by decide +kernel, by decide +kernel⟩, List.mem_of_getElem? (i := 814) (by decide +kernel), List.mem_of_getElem? (i := 1007) (by decide +kernel), List.mem_of_getElem? (i := 1008) (by decide +kernel)⟩
theorem lw_p49 : lw_okq (⟨"ParleyRoomModel", "owns", "(II)Z"⟩, 36) := ⟨⟨by decide +kernel, by decide +kernel⟩, List.mem_of_getElem? (i := 814) (by decide +kernel), List.mem_of_getElem? (i := 1011) (by decide +kernel), List.mem_of_getElem? (i := 1012) (by decide +kernel)⟩
theorem lw_p50 : lw_okq (⟨"ParleyRoomModel", "isPermitted", "(III)Z"⟩, 36) := ⟨⟨by decide +kernel, by decide +kernel⟩, List.mem_of_getElem? (i := 814) (by decide +kernel), List.mem_of_getElem? (i := 1015) (by decide +kernel), List.mem_of_getElem? (i := 1016) (by decide +kernel)⟩
theorem lw_p51 : lw_okq (⟨"ParleyRoomModel", "assertsIn", "(II)Z"⟩, 36) := ⟨⟨by decide +kernel, by decide +kernel⟩, List.mem_of_getElem? (i := 814) (by decide +kernel), List.mem_of_getElem? (i := 1019) (by decide +kernel), List.mem_of_getElem? (i := 1020) (by decide +kernel)⟩
theorem lw_p52 : lw_okq (⟨"ParleyRoomModel", "acks", "()V"⟩, 36) := ⟨⟨by decide +kernel, by decide +kernel⟩, List.mem_of_getElem? (i := 814) (by decide +kernel), List.mem_of_getElem? (i := 1031) (by decide +kernel), List.mem_of_getElem? (i := 1032) (by decide +kernel)⟩
theorem lw_p53 : lw_okq (⟨"ParleyRoomModel", "carries", "(I)V"⟩, 36) := ⟨⟨by decide +kernel, by decide +kernel⟩, List.mem_of_getElem? (i := 814) (by decide +kernel), List.mem_of_getElem? (i := 1035) (by decide +kernel), List.mem_of_getElem? (i := 1036) (by decide +kernel)⟩
theorem lw_p54 : lw_okq (⟨"ParleyRoomModel", "delivers", "(I)V"⟩, 36) := ⟨⟨by decide +kernel, by decide +kernel⟩, List.mem_of_getElem? (i := 814) (by decide +kernel), List.mem_of_getElem? (i := 1039) (by decide +kernel), List.mem_of_getElem? (i := 1040) (by decide +kernel)⟩
theorem lw_p55 : lw_okq (⟨"ParleyRoomModel", "isDeaf", "(I)Z"⟩, 36) := ⟨⟨by decide +kernel, by decide +kernel⟩, List.mem_of_getElem? (i := 814) (by decide +kernel), List.mem_of_getElem? (i := 1043) (by decide +kernel), List.mem_of_getElem? (i := 1044) (by decide +kernel)⟩
theorem lw_p56 : lw_okq (⟨"ParleyRoomModel", "hasInterpreter", "(II)Z"⟩, 36) := ⟨⟨by decide +kernel, by decide +kernel⟩, List.mem_of_getElem? (i := 814) (by decide +kernel), List.mem_of_getElem? (i := 1047) (by decide +kernel), List.mem_of_getElem? (i := 1048) (by decide +kernel)⟩
theorem lw_p57 : lw_okq (⟨"ParleyRoomModel", "isChallenged", "(I)Z"⟩, 36) := ⟨⟨by decide +kernel, by decide +kernel⟩, List.mem_of_getElem? (i := 814) (by decide +kernel), List.mem_of_getElem? (i := 1051) (by decide +kernel), List.mem_of_getElem? (i := 1052) (by decide +kernel)⟩
theorem lw_p58 : lw_okq (⟨"ParleyRoomModel", "says", "(III)V"⟩, 36) := ⟨⟨by decide +kernel, by decide +kernel⟩, List.mem_of_getElem? (i := 814) (by decide +kernel), List.mem_of_getElem? (i := 1055) (by decide +kernel), List.mem_of_getElem? (i := 1056) (by decide +kernel)⟩
theorem lw_p59 : lw_okq (⟨"ParleyRoomModel", "commits", "(IIII)V"⟩, 36) := ⟨⟨by decide +kernel, by decide +kernel⟩, List.mem_of_getElem? (i := 814) (by decide +kernel), List.mem_of_getElem? (i := 1059) (by decide +kernel), List.mem_of_getElem? (i := 1060) (by decide +kernel)⟩
theorem lw_p60 : lw_okq (⟨"ParleyRoomModel", "endsQuarrels", "()V"⟩, 36) := ⟨⟨by decide +kernel, by decide +kernel⟩, List.mem_of_getElem? (i := 814) (by decide +kernel), List.mem_of_getElem? (i := 1063) (by decide +kernel), List.mem_of_getElem? (i := 1064) (by decide +kernel)⟩
theorem lw_p61 : lw_okq (⟨"ParleyRoomModel", "doesQuestion", "(I)V"⟩, 36) := ⟨⟨by decide +kernel, by decide +kernel⟩, List.mem_of_getElem? (i := 814) (by decide +kernel), List.mem_of_getElem? (i := 1070) (by decide +kernel), List.mem_of_getElem? (i := 1071) (by decide +kernel)⟩
theorem lw_p62 : lw_okq (⟨"ParleyRoomModel", "rightTo", "(I)V"⟩, 36) := ⟨⟨by decide +kernel, by decide +kernel⟩, List.mem_of_getElem? (i := 814) (by decide +kernel), List.mem_of_getElem? (i := 1074) (by decide +kernel), List.mem_of_getElem? (i := 1075) (by decide +kernel)⟩
theorem lw_p63 : lw_okq (⟨"ParleyRoomModel", "doesOffer", "(I)V"⟩, 36) := ⟨⟨by decide +kernel, by decide +kernel⟩, List.mem_of_getElem? (i := 814) (by decide +kernel), List.mem_of_getElem? (i := 1078) (by decide +kernel), List.mem_of_getElem? (i := 1079) (by decide +kernel)⟩
def lw_privs_4 : List (MethodName × Nat) := [(⟨"ParleyRoomModel", "isClaim", "(I)Z"⟩, 36), (⟨"ParleyRoomModel", "owns", "(II)Z"⟩, 36), (⟨"ParleyRoomModel", "isPermitted", "(III)Z"⟩, 36), (⟨"ParleyRoomModel", "assertsIn", "(II)Z"⟩, 36), (⟨"ParleyRoomModel", "acks", "()V"⟩, 36), (⟨"ParleyRoomModel", "carries", "(I)V"⟩, 36), (⟨"ParleyRoomModel", "delivers", "(I)V"⟩, 36), (⟨"ParleyRoomModel", "isDeaf", "(I)Z"⟩, 36), (⟨"ParleyRoomModel", "hasInterpreter", "(II)Z"⟩, 36), (⟨"ParleyRoomModel", "isChallenged", "(I)Z"⟩, 36), (⟨"ParleyRoomModel", "says", "(III)V"⟩, 36), (⟨"ParleyRoomModel", "commits", "(IIII)V"⟩, 36), (⟨"ParleyRoomModel", "endsQuarrels", "()V"⟩, 36), (⟨"ParleyRoomModel", "doesQuestion", "(I)V"⟩, 36), (⟨"ParleyRoomModel", "rightTo", "(I)V"⟩, 36), (⟨"ParleyRoomModel", "doesOffer", "(I)V"⟩, 36)]
theorem lw_r4 : ∀ q ∈ lw_privs_4, lw_okq q := List.forall_mem_cons.mpr ⟨lw_p48, List.forall_mem_cons.mpr ⟨lw_p49, List.forall_mem_cons.mpr ⟨lw_p50, List.forall_mem_cons.mpr ⟨lw_p51, List.forall_mem_cons.mpr ⟨lw_p52, List.forall_mem_cons.mpr ⟨lw_p53, List.forall_mem_cons.mpr ⟨lw_p54, List.forall_mem_cons.mpr ⟨lw_p55, List.forall_mem_cons.mpr ⟨lw_p56, List.forall_mem_cons.mpr ⟨lw_p57, List.forall_mem_cons.mpr ⟨lw_p58, List.forall_mem_cons.mpr ⟨lw_p59, List.forall_mem_cons.mpr ⟨lw_p60, List.forall_mem_cons.mpr ⟨lw_p61, List.forall_mem_cons.mpr ⟨lw_p62, List.forall_mem_cons.mpr ⟨lw_p63, fun _ h => absurd h List.not_mem_nil⟩⟩⟩⟩⟩⟩⟩⟩⟩⟩⟩⟩⟩⟩⟩⟩
theorem lw_p64 : lw_okq (⟨"ParleyRoomModel", "doesTurn", "(I)V"⟩, 36) := ⟨⟨by decide +kernel, by decide +kernel⟩, List.mem_of_getElem? (i := 814) (by decide +kernel), List.mem_of_getElem? (i := 1082) (by decide +kernel), List.mem_of_getElem? (i := 1083) (by decide +kernel)⟩
theorem lw_p65 : lw_okq (⟨"ParleyRoomModel", "doesAtom", "(I)V"⟩, 36) := ⟨⟨by decide +kernel, by decide +kernel⟩, List.mem_of_getElem? (i := 814) (by decide +kernel), List.mem_of_getElem? (i := 1086) (by decide +kernel), List.mem_of_getElem? (i := 1087) (by decide +kernel)⟩
theorem lw_p66 : lw_okq (⟨"ParleyRoomModel", "floor", "()V"⟩, 36) := ⟨⟨by decide +kernel, by decide +kernel⟩, List.mem_of_getElem? (i := 814) (by decide +kernel), List.mem_of_getElem? (i := 1090) (by decide +kernel), List.mem_of_getElem? (i := 1091) (by decide +kernel)⟩
theorem lw_p67 : lw_okq (⟨"ParleyRoomModel", "holder", "()I"⟩, 36) := ⟨⟨by decide +kernel, by decide +kernel⟩, List.mem_of_getElem? (i := 814) (by decide +kernel), List.mem_of_getElem? (i := 1094) (by decide +kernel), List.mem_of_getElem? (i := 1095) (by decide +kernel)⟩
theorem lw_p68 : lw_okq (⟨"ParleyRoomModel", "comesLate", "()V"⟩, 36) := ⟨⟨by decide +kernel, by decide +kernel⟩, List.mem_of_getElem? (i := 814) (by decide +kernel), List.mem_of_getElem? (i := 1098) (by decide +kernel), List.mem_of_getElem? (i := 1099) (by decide +kernel)⟩
theorem lw_p69 : lw_okq (⟨"ParleyRoomModel", "hardens", "()V"⟩, 36) := ⟨⟨by decide +kernel, by decide +kernel⟩, List.mem_of_getElem? (i := 814) (by decide +kernel), List.mem_of_getElem? (i := 1102) (by decide +kernel), List.mem_of_getElem? (i := 1103) (by decide +kernel)⟩
theorem lw_p70 : lw_okq (⟨"ParleyRoomModel", "isTaken", "(I)Z"⟩, 36) := ⟨⟨by decide +kernel, by decide +kernel⟩, List.mem_of_getElem? (i := 814) (by decide +kernel), List.mem_of_getElem? (i := 1106) (by decide +kernel), List.mem_of_getElem? (i := 1107) (by decide +kernel)⟩
theorem lw_p71 : lw_okq (⟨"ParleyRoomModel", "silence", "()V"⟩, 36) := ⟨⟨by decide +kernel, by decide +kernel⟩, List.mem_of_getElem? (i := 814) (by decide +kernel), List.mem_of_getElem? (i := 1110) (by decide +kernel), List.mem_of_getElem? (i := 1111) (by decide +kernel)⟩
theorem lw_p72 : lw_okq (⟨"ParleyRoomModel", "told", "(I)I"⟩, 36) := ⟨⟨by decide +kernel, by decide +kernel⟩, List.mem_of_getElem? (i := 814) (by decide +kernel), List.mem_of_getElem? (i := 1118) (by decide +kernel), List.mem_of_getElem? (i := 1119) (by decide +kernel)⟩
theorem lw_p73 : lw_okq (⟨"ParleyRoomModel", "ofTurn", "(II)I"⟩, 36) := ⟨⟨by decide +kernel, by decide +kernel⟩, List.mem_of_getElem? (i := 814) (by decide +kernel), List.mem_of_getElem? (i := 1134) (by decide +kernel), List.mem_of_getElem? (i := 1135) (by decide +kernel)⟩
theorem lw_p74 : lw_okq (⟨"ParleyRoomModel", "isCell", "(II)Z"⟩, 36) := ⟨⟨by decide +kernel, by decide +kernel⟩, List.mem_of_getElem? (i := 814) (by decide +kernel), List.mem_of_getElem? (i := 1146) (by decide +kernel), List.mem_of_getElem? (i := 1147) (by decide +kernel)⟩
theorem lw_p75 : lw_okq (⟨"ParleyRoomModel", "isGround", "(IIII)Z"⟩, 36) := ⟨⟨by decide +kernel, by decide +kernel⟩, List.mem_of_getElem? (i := 814) (by decide +kernel), List.mem_of_getElem? (i := 1175) (by decide +kernel), List.mem_of_getElem? (i := 1176) (by decide +kernel)⟩
def lw_privs_5 : List (MethodName × Nat) := [(⟨"ParleyRoomModel", "doesTurn", "(I)V"⟩, 36), (⟨"ParleyRoomModel", "doesAtom", "(I)V"⟩, 36), (⟨"ParleyRoomModel", "floor", "()V"⟩, 36), (⟨"ParleyRoomModel", "holder", "()I"⟩, 36), (⟨"ParleyRoomModel", "comesLate", "()V"⟩, 36), (⟨"ParleyRoomModel", "hardens", "()V"⟩, 36), (⟨"ParleyRoomModel", "isTaken", "(I)Z"⟩, 36), (⟨"ParleyRoomModel", "silence", "()V"⟩, 36), (⟨"ParleyRoomModel", "told", "(I)I"⟩, 36), (⟨"ParleyRoomModel", "ofTurn", "(II)I"⟩, 36), (⟨"ParleyRoomModel", "isCell", "(II)Z"⟩, 36), (⟨"ParleyRoomModel", "isGround", "(IIII)Z"⟩, 36)]
theorem lw_r5 : ∀ q ∈ lw_privs_5, lw_okq q := List.forall_mem_cons.mpr ⟨lw_p64, List.forall_mem_cons.mpr ⟨lw_p65, List.forall_mem_cons.mpr ⟨lw_p66, List.forall_mem_cons.mpr ⟨lw_p67, List.forall_mem_cons.mpr ⟨lw_p68, List.forall_mem_cons.mpr ⟨lw_p69, List.forall_mem_cons.mpr ⟨lw_p70, List.forall_mem_cons.mpr ⟨lw_p71, List.forall_mem_cons.mpr ⟨lw_p72, List.forall_mem_cons.mpr ⟨lw_p73, List.forall_mem_cons.mpr ⟨lw_p74, List.forall_mem_cons.mpr ⟨lw_p75, fun _ h => absurd h List.not_mem_nil⟩⟩⟩⟩⟩⟩⟩⟩⟩⟩⟩⟩
def lw_privs : List (MethodName × Nat) := lw_privs_1 ++ (lw_privs_2 ++ (lw_privs_3 ++ (lw_privs_4 ++ (lw_privs_5))))
def lw_tbl : List Cond := k2_sels lw_privs ++ tables_1
theorem lw_privs_ok : ∀ q ∈ lw_privs, lw_okq q := by
  show ∀ q ∈ lw_privs_1 ++ (lw_privs_2 ++ (lw_privs_3 ++ (lw_privs_4 ++ (lw_privs_5)))), lw_okq q
  exact List.forall_mem_append.mpr ⟨lw_r1, List.forall_mem_append.mpr ⟨lw_r2, List.forall_mem_append.mpr ⟨lw_r3, List.forall_mem_append.mpr ⟨lw_r4, lw_r5⟩⟩⟩⟩
/-! ===== BEGIN words of one list among another's, by their places ===== -/
theorem goodIn_r {big : List Cond} (ws : List Cond) (ps : List Nat) (hp : ws = ps.filterMap (fun i => big[i]?)) (h : ws.all goodWord = true) : GoodIn big ws := by
  intro w hw
  have h1 := List.all_eq_true.mp h w hw
  rw [hp] at hw
  obtain ⟨i, -, hi⟩ := List.mem_filterMap.mp hw
  have hm : w ∈ big := by first | exact List.mem_of_getElem? hi | exact List.getElem?_mem hi
  exact ⟨hm, good_of_word h1⟩
theorem goodIn_app {big a b : List Cond} (ha : GoodIn big a) (hb : GoodIn big b) : GoodIn big (a ++ b) := fun w h => (List.mem_append.mp h).elim (ha w) (hb w)
theorem goodIn_ca {big a b : List Cond} {c : Cond} (ha : GoodIn big (c :: a)) (hb : GoodIn big b) : GoodIn big (c :: (a ++ b)) := fun w h => (List.mem_cons.mp h).elim (fun e => ha w (List.mem_cons.mpr (Or.inl e))) (fun h => (List.mem_append.mp h).elim (fun h => ha w (List.mem_cons.mpr (Or.inr h))) (hb w))
theorem goodIn_sub {big ws : List Cond} (hm : ∀ w ∈ ws, w ∈ big) (h : ws.all goodWord = true) : GoodIn big ws := fun w hw => ⟨hm w hw, good_of_word (List.all_eq_true.mp h w hw)⟩
/-! ===== END ===== -/

/-! ===== BEGIN exceptions that leave a method, and their catching by the caller (launches without stack traces) ===== -/
section VXA
/-! The laws vx_back, vx_callV, vx_callS, vx_callSW, vx_throw0, vx_throwS follow proofs of the library, with one case more: JvmDerived/Free/Laws.lean (Back.of_free), Shelf42/LK1.lean (callV, callS), Shelf/KitTraced.lean (throwNew0V, throwNewS). -/
/-- where a method has thrown q: the class by its name, the cell, what was written, the world -/
def vx_T (XC : String → State → State → Prop) (st : State) (q : Addr) (t : State) (mc ms : Nat) (free : Addr → Prop) : Prop :=
  ∃ (E : String) (ce : Cell) (L : List Loc), XC E st t ∧ t.heap[q]? = some ce ∧ ce.vm = .none ∧ st.vm.findClass E = some ce.cls ∧ st.WarmedH t.vm ∧ st.sameButNew ({ t with vm := st.vm } : State) L mc ms ∧ ∀ z ∈ L, free z.base
def vx_Q (Qc : Array Value → State → Outcome → State → Prop) (XC : String → State → State → Prop) (mc ms : Nat) (free : Addr → Prop) : Array Value → State → Outcome → State → Prop := fun a st o t =>
  (Qc a st o t ∧ ∃ L, FrameEnd st o t L mc ms ∧ ∀ q ∈ L, free q.base) ∨ ∃ q, o = .threw q ∧ vx_T XC st q t mc ms free
/-- a callee that returns or throws -/
def vx_Met (l : Launch) (y : MethodName) (ws : List Cond) (rm : Room) (Pc : Array Value → State → Prop) (Qc : Array Value → State → Outcome → State → Prop) (XC : String → State → State → Prop) (mc ms : Nat) (free : Addr → Prop) : Prop :=
  MetFree l y (headSpec ws rm) Pc (fun _ _ _ _ _ => True) (vx_Q Qc XC mc ms free)
def vx_Post (XC : String → State → State → Prop) (mc ms : Nat) (free : Addr → Prop) : Pt → Array Value → Addr → Pt → Prop := fun A a q B =>
  ∃ (g : JFrame) (mk : MethodId) (t : State) (L : List Loc) (E : String) (ce : Cell), B.U.heap = t.heap ∧ B.U.vm = t.vm ∧ XC E (A.U.calling g mk a) t ∧ t.heap[q]? = some ce ∧ ce.vm = .none ∧ A.U.vm.findClass E = some ce.cls ∧ B.locs = A.locs ++ L ∧ (∀ z ∈ L, free z.base) ∧ B.cells = A.cells + mc ∧ B.slots = A.slots + ms
def vx_Back (l : Launch) (R : Room) (p : Program) (e : Env) (below : List Frame) (s : State) (sargs : Array Value) (y : MethodName) (len W9 : Nat)
    (Pre : Pt → Array Value → Prop) (Post : Pt → Array Value → Option Value → Pt → Prop) (PostX : Pt → Array Value → Addr → Pt → Prop) : Prop :=
  ∀ (m : MethodId) (meth : Method) (c : Code) (A : Pt) (g : JFrame) (ig : Instr) (mk : MethodId) (a : Array Value),
    Stand p l e R s m sargs below meth c A.U A.locs A.cells A.slots → g.method = m → g.locals.size = c.maxLocals → decode c.code g.pc = .ok (ig, len) →
    2 * g.monitorRoom + (g.stack.map fun v => v.category).sum ≤ W9 → A.U.methodNamed? y = some mk → Pre A a →
    (∃ (v : Option Value) (B : Pt), Stand p l e R s m sargs below meth c B.U B.locs B.cells B.slots ∧ Post A a v B ∧
      Steps p.tables e below (doInvoke e (A.U.setTop g) [] mk a).1 (B.U.setTop { g with pc := g.pc + len, stack := v.toList ++ g.stack })) ∨
    (∃ (q : Addr) (B : Pt), Stand p l e R s m sargs below meth c B.U B.locs B.cells B.slots ∧ PostX A a q B ∧
      Steps p.tables e below (doInvoke e (A.U.setTop g) [] mk a).1 ((B.U.setTop g).pushFrame (.throwing q)))
section Payer
variable {l : Launch} {R : Room} {p : Program} {e : Env} {below : List Frame} {s : State} {sargs : Array Value} {y : MethodName} {len W9 : Nat}
theorem vx_back {ws : List Cond} {rm : Room} {Pc : Array Value → State → Prop} {Qc : Array Value → State → Outcome → State → Prop} {XC : String → State → State → Prop} {mc ms : Nat} {free : Addr → Prop} {bytes : ByteArray} {maxL : Nat} {ret : Option FieldType}
    (hM : vx_Met l y ws rm Pc Qc XC mc ms free) (hblind : FrameBlind Pc) (hrc : rm.cells = mc) (hrs : rm.slots = ms)
    (hframes : rm.frames + 1 ≤ R.frames) (hlocals : W9 + (maxL + 11) + rm.locals ≤ R.locals)
    (hws : ∀ w ∈ ws, ∀ a' U, s.WarmedH U.vm → w.before a' U = true) (hcode : Cond.code y bytes maxL ret ∈ ws) (hinit : ∀ a' U, s.WarmedH U.vm → (Cond.initialized y.cls).before a' U = true) :
    vx_Back l R p e below s sargs y len W9 (PreOf R mc ms Pc) (PostOf Qc mc ms free) (vx_Post XC mc ms free) := by
  intro m meth c A g ig mk a X hg hsize hdg hW hn hp
  have h1 : (headSpec ws rm).pre.before a A.U = true := atoms_intro fun w hw => hws w hw _ _ X.warmed
  have h2 : (Cond.code y bytes maxL ret).before a A.U = true := hws _ hcode _ _ X.warmed
  have h3 : (Cond.initialized y.cls).before a A.U = true := hinit _ _ X.warmed
  have h4 : A.cells + (headSpec ws rm).room.cells ≤ R.cells := by rw [show (headSpec ws rm).room.cells = mc from hrc]; exact hp.1
  have h5 : A.slots + (headSpec ws rm).room.slots ≤ R.slots := by rw [show (headSpec ws rm).room.slots = ms from hrs]; exact hp.2.1
  have hPc : Pc a (A.U.calling g mk a) := hblind _ _ _ _ hp.2.2
  obtain ⟨U, Ls, c0, s0⟩ := A
  dsimp only [Pt.U, Pt.locs, Pt.cells, Pt.slots] at h1 h2 h3 h4 h5 X hn hPc ⊢
  obtain ⟨methY, cY, hmY, hcY, -, hlY, -, -, -, -⟩ := Cond.code_spec hn h2
  obtain ⟨kY, hkY, -⟩ := className_of_methodNamed hn
  have hinitY : kY.init = .initialized := Cond.initialized_spec (findClass_of_methodNamed hn) hkY h3
  have h : At U g.method c below := by rw [hg]; exact X.here
  have hlocals9 : W9 + (maxL + 11) + (headSpec ws rm).room.locals ≤ R.locals := hlocals
  have happ : (headSpec ws rm).appliesLoose y e.platform (U.calling g mk a) = true :=
    Spec.appliesLoose_calling (g := g) h hdg hn hkY hinitY
      (X.room_calling (g := g) (R' := (headSpec ws rm).room) hsize hmY hcY hframes (by rw [hlY]; omega) h4 h5) h1
  obtain ⟨mid, hmid⟩ := h.above
  have hfr : (U.setTop g).frames = (.java g :: mid) ++ below := by rw [State.frames_setTop' g h.top, hmid]; rfl
  obtain ⟨o, s₂, hsteps, -, hend, hq⟩ := Steps.callFree hM p X.admits X.cas X.clock (acts := []) hfr happ hPc trivial
  have hq' : vx_Q Qc XC mc ms free a (U.calling g mk a) o s₂ := hq
  rw [State.frames_setTop' g h.top] at hend
  obtain ⟨g₀, hg0⟩ := Option.isSome_iff_exists.mp h.top
  obtain ⟨r, hr⟩ := State.topJava?_eq_some.mp hg0
  have hr' : (({ U with heap := s₂.heap, slotsUsed := s₂.slotsUsed } : State).setVm s₂.vm).frames = .java g₀ :: r := hr
  rcases hq' with ⟨hqc, L, hfe, hL⟩ | ⟨q, rfl, E, ce, L, hx, hce, hcv, hcl, hW₂, hsm, hL⟩
  · obtain ⟨⟨v, rfl⟩, hW₂, e2, q2, q3, q4, q5, q6⟩ := id hfe
    have e3 : s₂ = ({ (U.calling g mk a).setFrames s₂.frames with heap := s₂.heap, slotsUsed := s₂.slotsUsed } : State).setVm s₂.vm := by
      have : s₂ = ({ s₂ with vm := (U.calling g mk a).vm } : State).setVm s₂.vm := rfl
      rw [e2] at this
      exact this
    obtain ⟨c₂, i₂, len₂, hc₂, hd₂, hf₂⟩ := hend
    have hW' : U.WarmedH s₂.vm := hW₂
    have hcc : c₂ = c := by
      have h1 : s₂.code? g.method = U.code? g.method := by
        rw [State.code?_eq, State.code?_eq, hW'.alike.method?]
      exact Option.some.inj (hc₂.symm.trans (h1.trans h.code))
    subst hcc
    have hlen : len₂ = len := by rw [hdg] at hd₂; cases hd₂; rfl
    subst hlen
    have hs₂ : s₂ = (({ U with heap := s₂.heap, slotsUsed := s₂.slotsUsed } : State).setVm s₂.vm).setTop { g with pc := g.pc + len₂, stack := v.toList ++ g.stack } := by
      refine e3.trans ?_
      rw [hf₂, State.calling_eq h.top, State.setFrames_setFrames, State.setTop_of_frames _ hr', hr]
      rfl
    have hsame : U.sameButNew ({ U with heap := s₂.heap, slotsUsed := s₂.slotsUsed } : State) L mc ms := by
      refine ⟨?_, q2, q3, q4, q5, q6⟩
      obtain ⟨t, ht, -⟩ := State.frames_cons hr
      show ({ U with heap := s₂.heap, slotsUsed := s₂.slotsUsed } : State) = { U.setFrames U.frames with heap := s₂.heap, slotsUsed := s₂.slotsUsed }
      rw [State.setFrames_self ht]
    subst hg
    refine Or.inl ⟨v, ⟨(({ U with heap := s₂.heap, slotsUsed := s₂.slotsUsed } : State).setVm s₂.vm), Ls ++ L, c0 + mc, s0 + ms⟩,
      ⟨X.admits, X.cas, X.clock, X.frames, X.room, X.hears, X.method, X.code, (X.here.setHeapUsed s₂.heap s₂.slotsUsed).setVm hW'.alike, X.tail, State.WarmedH.trans X.warmed hW', X.limits, X.bytes, X.same.trans (hsame.setVm s.vm)⟩,
      ⟨g, mk, s₂, L, rfl, rfl, hqc, rfl, hL, rfl, rfl⟩, ?_⟩
    show Steps p.tables e below _ ((({ U with heap := s₂.heap, slotsUsed := s₂.slotsUsed } : State).setVm s₂.vm).setTop { g with pc := g.pc + len₂, stack := v.toList ++ g.stack })
    rw [← hs₂]
    exact hsteps
  · obtain ⟨e2, q2, q3, q4, q5, q6⟩ := id hsm
    have e3 : s₂ = ({ (U.calling g mk a).setFrames s₂.frames with heap := s₂.heap, slotsUsed := s₂.slotsUsed } : State).setVm s₂.vm := by
      have : s₂ = ({ s₂ with vm := (U.calling g mk a).vm } : State).setVm s₂.vm := rfl
      rw [e2] at this
      exact this
    have hf₂ : s₂.frames = .throwing q :: .java g :: U.frames.tail := hend
    have hW' : U.WarmedH s₂.vm := hW₂
    have hs₂ : s₂ = ((({ U with heap := s₂.heap, slotsUsed := s₂.slotsUsed } : State).setVm s₂.vm).setTop g).pushFrame (.throwing q) := by
      refine e3.trans ?_
      rw [hf₂, State.calling_eq h.top, State.setFrames_setFrames, State.pushFrame, State.frames_setTop _ hr', State.setTop_of_frames _ hr', State.setFrames_setFrames, hr]
      rfl
    have hsame : U.sameButNew ({ U with heap := s₂.heap, slotsUsed := s₂.slotsUsed } : State) L mc ms := by
      refine ⟨?_, q2, q3, q4, q5, q6⟩
      obtain ⟨t, ht, -⟩ := State.frames_cons hr
      show ({ U with heap := s₂.heap, slotsUsed := s₂.slotsUsed } : State) = { U.setFrames U.frames with heap := s₂.heap, slotsUsed := s₂.slotsUsed }
      rw [State.setFrames_self ht]
    subst hg
    refine Or.inr ⟨q, ⟨(({ U with heap := s₂.heap, slotsUsed := s₂.slotsUsed } : State).setVm s₂.vm), Ls ++ L, c0 + mc, s0 + ms⟩,
      ⟨X.admits, X.cas, X.clock, X.frames, X.room, X.hears, X.method, X.code, (X.here.setHeapUsed s₂.heap s₂.slotsUsed).setVm hW'.alike, X.tail, State.WarmedH.trans X.warmed hW', X.limits, X.bytes, X.same.trans (hsame.setVm s.vm)⟩,
      ⟨g, mk, s₂, L, E, ce, rfl, rfl, hx, hce, hcv, hcl, rfl, hL, rfl, rfl⟩, ?_⟩
    show Steps p.tables e below _ (((({ U with heap := s₂.heap, slotsUsed := s₂.slotsUsed } : State).setVm s₂.vm).setTop g).pushFrame (.throwing q))
    rw [← hs₂]
    exact hsteps
end Payer
section Calls
variable {p : Program} {l : Launch} {e : Env} {R : Room} {s : State} {m : MethodId} {args : Array Value} {below : List Frame} {meth : Method} {c : Code} {T : State} {locs : List Loc} {cells slots : Nat}
theorem vx_callV (X : Stand p l e R s m args below meth c T locs cells slots) (hexec : p.tables.exec = Jvm.exec) {own C : String} {index : Nat} {y : MethodName} {bytes : ByteArray} {maxL : Nat} {ret : Option FieldType}
    (hown : s.vm.findClass own = some m.cls) (hlink : (Cond.methodLink own index y).before args s = true) (hinst : (Cond.instanceMethod y).before args s = true) (hsel : (Cond.selects C y y).before args s = true)
    (hcode : (Cond.code y bytes maxL ret).before args s = true) (hy : y.cls ≠ "java/lang/invoke/MethodHandle" ∧ y.cls ≠ "java/lang/invoke/VarHandle")
    {W9 : Nat} {Pre : Pt → Array Value → Prop} {Post : Pt → Array Value → Option Value → Pt → Prop} {PostX : Pt → Array Value → Addr → Pt → Prop} (hK : vx_Back l R p e below s args y 3 W9 Pre Post PostX)
    {b : Addr} {cellB : Cell} (hcell : T.heap[b]? = some cellB) (hobj : cellB.vm.isStatics = false) (hcls : s.vm.findClass C = some cellB.cls)
    {g : JFrame} (hg : g.method = m) (hsize : g.locals.size = c.maxLocals) {argsL rest : List Value} (hlen : ∀ sig, parseMethodDescriptor y.desc = some sig → argsL.length = sig.parameters.length)
    (hstack : g.stack = argsL.reverse ++ .ref b :: rest) (hW : 2 * g.monitorRoom + (rest.map fun v => v.category).sum ≤ W9) (hdg : decode c.code g.pc = .ok (.invokevirtual index, 3))
    (hpre : ∀ vm₁, s.WarmedH vm₁ → Pre ⟨T.setVm vm₁, locs, cells, slots⟩ (Value.ref b :: argsL).toArray) :
    (∃ (v : Option Value) (vm₁ : Vm) (B : Pt), s.WarmedH vm₁ ∧ Stand p l e R s m args below meth c B.U B.locs B.cells B.slots ∧ Post ⟨T.setVm vm₁, locs, cells, slots⟩ (Value.ref b :: argsL).toArray v B ∧
      ∀ target, Steps p.tables e below (B.U.setTop { g with pc := g.pc + 3, stack := v.toList ++ rest }) target → Steps p.tables e below (T.setTop g) target) ∨
    (∃ (q : Addr) (vm₁ : Vm) (B : Pt), s.WarmedH vm₁ ∧ Stand p l e R s m args below meth c B.U B.locs B.cells B.slots ∧ PostX ⟨T.setVm vm₁, locs, cells, slots⟩ (Value.ref b :: argsL).toArray q B ∧
      Steps p.tables e below (T.setTop g) ((B.U.setTop { g with stack := rest }).pushFrame (.throwing q))) := by
  obtain ⟨mk, methM, hnamed, hmethM, hstM, habM⟩ := Cond.instanceMethod_spec hinst
  obtain ⟨methM', cM, hmethM', -, -, -, -, -, -, hsigM⟩ := Cond.code_spec hnamed hcode
  cases hmethM.symm.trans hmethM'
  obtain ⟨c2, r2, m2, q1, q2, q3, q4, kP, hkP, hkPi⟩ := Cond.selects_spec hsel
  cases hcls.symm.trans q1
  cases (State.methodFound?_of_named hnamed hy).symm.trans q2
  cases hnamed.symm.trans q3
  have hselP : selectMethod e.platform s.vm cellB.cls mk = .method mk := by rw [Launch.admits_selectMethod X.admits]; exact q4
  obtain ⟨vm₁, X₁, hstep₁⟩ := X.invokevirtual hexec hown hlink hnamed hmethM hstM hkP hkPi hy (a := b) (cell := cellB) hcell
    (fun z h => by rw [h] at hobj; cases hobj) hselP hmethM habM hkP hkPi (g := g) hg (argsL := argsL) (rest := rest) (hlen _ hsigM) hstack hdg
  rcases hK m meth c ⟨T.setVm vm₁, locs, cells, slots⟩ { g with stack := rest } (.invokevirtual index) mk (Value.ref b :: argsL).toArray X₁ hg hsize hdg hW (X₁.named hnamed) (hpre vm₁ X₁.warmed) with ⟨v, B, X', hpost, hsteps⟩ | ⟨q, B, X', hpost, hsteps⟩
  · exact Or.inl ⟨v, vm₁, B, X₁.warmed, X', hpost, fun target h => hstep₁ _ fun acts => by rw [doInvoke_state]; exact hsteps.trans h⟩
  · exact Or.inr ⟨q, vm₁, B, X₁.warmed, X', hpost, hstep₁ _ fun acts => by rw [doInvoke_state]; exact hsteps⟩
theorem vx_callS (X : Stand p l e R s m args below meth c T locs cells slots) (hexec : p.tables.exec = Jvm.exec) {own : String} {index : Nat} {y : MethodName} {bytes : ByteArray} {maxL : Nat} {ret : Option FieldType}
    (hown : s.vm.findClass own = some m.cls) (hlink : (Cond.methodLink own index y).before args s = true) (hstat : (Cond.static y).before args s = true) (hinit : (Cond.initialized y.cls).before args s = true)
    (hcode : (Cond.code y bytes maxL ret).before args s = true) (hy : y.cls ≠ "java/lang/invoke/MethodHandle" ∧ y.cls ≠ "java/lang/invoke/VarHandle")
    {W9 : Nat} {Pre : Pt → Array Value → Prop} {Post : Pt → Array Value → Option Value → Pt → Prop} {PostX : Pt → Array Value → Addr → Pt → Prop} (hK : vx_Back l R p e below s args y 3 W9 Pre Post PostX)
    {g : JFrame} (hg : g.method = m) (hsize : g.locals.size = c.maxLocals) {argsL rest : List Value} (hlen : ∀ sig, parseMethodDescriptor y.desc = some sig → argsL.length = sig.parameters.length)
    (hstack : g.stack = argsL.reverse ++ rest) (hW : 2 * g.monitorRoom + (rest.map fun v => v.category).sum ≤ W9) (hdg : decode c.code g.pc = .ok (.invokestatic index, 3))
    (hpre : ∀ vm₁, s.WarmedH vm₁ → Pre ⟨T.setVm vm₁, locs, cells, slots⟩ argsL.toArray) :
    (∃ (v : Option Value) (vm₁ : Vm) (B : Pt), s.WarmedH vm₁ ∧ Stand p l e R s m args below meth c B.U B.locs B.cells B.slots ∧ Post ⟨T.setVm vm₁, locs, cells, slots⟩ argsL.toArray v B ∧
      ∀ target, Steps p.tables e below (B.U.setTop { g with pc := g.pc + 3, stack := v.toList ++ rest }) target → Steps p.tables e below (T.setTop g) target) ∨
    (∃ (q : Addr) (vm₁ : Vm) (B : Pt), s.WarmedH vm₁ ∧ Stand p l e R s m args below meth c B.U B.locs B.cells B.slots ∧ PostX ⟨T.setVm vm₁, locs, cells, slots⟩ argsL.toArray q B ∧
      Steps p.tables e below (T.setTop g) ((B.U.setTop { g with stack := rest }).pushFrame (.throwing q))) := by
  obtain ⟨mk, hnamed⟩ := Cond.code_named hcode
  obtain ⟨methM, cM, hmethM, -, -, -, -, -, -, hsigM⟩ := Cond.code_spec hnamed hcode
  have hstatic : methM.isStatic = true := Cond.static_spec hnamed hmethM hstat
  obtain ⟨kP, hkP, -⟩ := className_of_methodNamed hnamed
  have hinitP : kP.init = .initialized := Cond.initialized_spec (findClass_of_methodNamed hnamed) hkP hinit
  obtain ⟨vm₁, X₁, hstep₁⟩ := X.invokestatic hexec hown hlink hnamed hmethM hstatic hkP hinitP hy (g := g) hg (argsL := argsL) (rest := rest) (hlen _ hsigM) hstack hdg
  rcases hK m meth c ⟨T.setVm vm₁, locs, cells, slots⟩ { g with stack := rest } (.invokestatic index) mk argsL.toArray X₁ hg hsize hdg hW (X₁.named hnamed) (hpre vm₁ X₁.warmed) with ⟨v, B, X', hpost, hsteps⟩ | ⟨q, B, X', hpost, hsteps⟩
  · exact Or.inl ⟨v, vm₁, B, X₁.warmed, X', hpost, fun target h => hstep₁ _ fun acts => by rw [doInvoke_state]; exact hsteps.trans h⟩
  · exact Or.inr ⟨q, vm₁, B, X₁.warmed, X', hpost, hstep₁ _ fun acts => by rw [doInvoke_state]; exact hsteps⟩
end Calls
theorem vx_cls {s : State} {T : State} {vm₁ : Vm} {E : String} {k : ClassId} (hW : s.WarmedH vm₁) (h : (T.setVm vm₁).vm.findClass E = some k) : s.vm.findClass E = some k := by
  have h1 : vm₁.findClass E = some k := h
  rw [hW.alike.findClass] at h1
  exact h1
/-- the method's frame g, with q thrown over it -/
def vx_W (p : Program) (l : Launch) (e : Env) (R : Room) (s : State) (m : MethodId) (args : Array Value) (below : List Frame) (meth : Method) (c : Code) (H : Heap) (locs : List Loc) (cells slots : Nat) (Q : State → Prop) (g : JFrame) (q : Addr) : Prop :=
  ∀ T : State, T.heap = H → Stand p l e R s m args below meth c T locs cells slots → ∃ t, Steps p.tables e below ((T.setTop g).pushFrame (.throwing q)) t ∧ Q t
def vx_Run (p : Program) (l : Launch) (e : Env) (R : Room) (s : State) (m : MethodId) (args : Array Value) (below : List Frame) (meth : Method) (c : Code) (H : Heap) (locs : List Loc) (cells slots mc ms : Nat) (g : JFrame) (rest : List Value) (Qa : State → Outcome → State → Prop) (XC : String → State → State → Prop) (free : Addr → Prop) : Prop :=
  ∀ T : State, T.heap = H → Stand p l e R s m args below meth c T locs cells slots →
    (∃ (v : Option Value) (st₀ t T' : State) (L : List Loc), st₀.heap = H ∧ Stand p l e R s m args below meth c T' (locs ++ L) (cells + mc) (slots + ms) ∧ (∀ q ∈ L, free q.base) ∧ T'.heap = t.heap ∧ T'.vm = t.vm ∧ Qa st₀ (.returned v) t ∧
      Goes p e below T g T' { g with pc := g.pc + 3, stack := v.toList ++ rest }) ∨
    (∃ (q : Addr) (st₀ t T' : State) (L : List Loc) (E : String) (ce : Cell), st₀.heap = H ∧ Stand p l e R s m args below meth c T' (locs ++ L) (cells + mc) (slots + ms) ∧ (∀ z ∈ L, free z.base) ∧ T'.heap = t.heap ∧ T'.vm = t.vm ∧ XC E st₀ t ∧ t.heap[q]? = some ce ∧ ce.vm = .none ∧ s.vm.findClass E = some ce.cls ∧
      Steps p.tables e below (T.setTop g) ((T'.setTop { g with stack := rest }).pushFrame (.throwing q)))
def vx_X {S : Type} (px : S → Prop) (B : String → S → State → Prop) (A : Nat → Prop) : String → State → State → Prop := fun E st t => ∃ u : S, px u ∧ B E u t ∧ va_F A st t
section Runs
variable {p : Program} {l : Launch} {e : Env} {R : Room} {s : State} {m : MethodId} {args : Array Value} {below : List Frame} {meth : Method} {c : Code} {H : Heap} {locs : List Loc} {cells slots : Nat}
variable {y : MethodName} {bytes cc : ByteArray} {maxL nL mc ms n index : Nat} {ret : Option FieldType} {ws : List Cond} {rm : Room} {Pc : Array Value → State → Prop} {Qc : Array Value → State → Outcome → State → Prop} {XC : String → State → State → Prop} {free : Addr → Prop} {Ts : List Cond} {own C : String} {b : Addr} {As rest : List Value} {g : JFrame}
theorem vx_callBack (cb : CallB R s args own index y bytes maxL ret ws rm mc ms n) (hM : vx_Met l y ws rm Pc Qc XC mc ms free) (hbl : FrameBlind Pc) : vx_Back l R p e below s args y 3 8 (PreOf R mc ms Pc) (PostOf Qc mc ms free) (vx_Post XC mc ms free) := by
  obtain ⟨hrc, hrs, hfr, hlo, hws, hcw, -, hini, -⟩ := cb
  exact vx_back (bytes := bytes) (maxL := maxL) (ret := ret) hM hbl hrc hrs hfr hlo hws hcw (fun a' U hW => word_at hW (Or.inl (by first | rfl | simp [Cond.onTables, Cond.keeps, Cond.steady])) hini)
theorem vx_runV (S : CallFix p m c cc nL s args Ts own) (hM : vx_Met l y ws rm Pc Qc XC mc ms free) (cw : CallW R s args own C index y bytes maxL ret ws rm mc ms n) (hp : PreV s H C b Pc As)
    (hg : g.method = m) (hn : As.length = n) (hsize : g.locals.size = nL) (hstack : g.stack = As.reverse ++ .ref b :: rest) (hW : 2 * g.monitorRoom + (rest.map fun v => v.category).sum ≤ 8) (hdg : decode cc g.pc = .ok (.invokevirtual index, 3)) (hf : cells + mc ≤ R.cells ∧ slots + ms ≤ R.slots) :
    vx_Run p l e R s m args below meth c H locs cells slots mc ms g rest (Qc (Value.ref b :: As).toArray) XC free := by
  have hK : vx_Back l R p e below s args y 3 8 (PreOf R mc ms Pc) (PostOf Qc mc ms free) (vx_Post XC mc ms free) := vx_callBack cw.1 hM hp.1
  obtain ⟨⟨-, -, -, -, -, -, hcode, -, hy, hlen, hl⟩, hin, hse⟩ := cw
  obtain ⟨hx, hb, hml, ho, -⟩ := S
  obtain ⟨-, ⟨cellB, hcB, hoB, hclB⟩, hPc⟩ := hp
  intro T hT X
  rcases vx_callV X hx (C := C) (bytes := bytes) (maxL := maxL) (ret := ret) ho hl hin hse hcode hy hK (by rw [hT]; exact hcB) hoB hclB hg (hsize.trans hml.symm) (argsL := As) (rest := rest) (fun sig h => hn.trans (hlen sig h)) hstack hW (by rw [hb]; exact hdg)
    (fun vm₁ hW₁ => ⟨hf.1, hf.2, hPc (T.setVm vm₁) hT hW₁⟩) with ⟨v, vm₁, ⟨U', l2, c2, s2⟩, hW₁, X', ⟨g', mk, t, L, e1, e2, hq, h1, hL, h2, h3⟩, st⟩ | ⟨q, vm₁, ⟨U', l2, c2, s2⟩, hW₁, X', ⟨g', mk, t, L, E, ce, e1, e2, hq, hce, hcv, hcl, h1, hL, h2, h3⟩, st⟩
  · dsimp only [Pt.U, Pt.locs, Pt.cells, Pt.slots] at X' e1 e2 h1 h2 h3 st
    subst h1; subst h2; subst h3
    exact Or.inl ⟨v, (T.setVm vm₁).calling g' mk (Value.ref b :: As).toArray, t, U', L, hT, X', hL, e1, e2, hq, st⟩
  · dsimp only [Pt.U, Pt.locs, Pt.cells, Pt.slots] at X' e1 e2 h1 h2 h3 st hcl
    subst h1; subst h2; subst h3
    exact Or.inr ⟨q, (T.setVm vm₁).calling g' mk (Value.ref b :: As).toArray, t, U', L, E, ce, hT, X', hL, e1, e2, hq, hce, hcv, vx_cls hW₁ hcl, st⟩
theorem vx_runS (S : CallFix p m c cc nL s args Ts own) (hM : vx_Met l y ws rm Pc Qc XC mc ms free) (cw : CallB R s args own index y bytes maxL ret ws rm mc ms n ∧ (Cond.static y).before args s = true) (hp : PreS s H Pc As)
    (hg : g.method = m) (hn : As.length = n) (hsize : g.locals.size = nL) (hstack : g.stack = As.reverse ++ rest) (hW : 2 * g.monitorRoom + (rest.map fun v => v.category).sum ≤ 8) (hdg : decode cc g.pc = .ok (.invokestatic index, 3)) (hf : cells + mc ≤ R.cells ∧ slots + ms ≤ R.slots) :
    vx_Run p l e R s m args below meth c H locs cells slots mc ms g rest (Qc As.toArray) XC free := by
  have hK : vx_Back l R p e below s args y 3 8 (PreOf R mc ms Pc) (PostOf Qc mc ms free) (vx_Post XC mc ms free) := vx_callBack cw.1 hM hp.1
  obtain ⟨⟨-, -, -, -, -, -, hcode, hini, hy, hlen, hl⟩, hstt⟩ := cw
  obtain ⟨hx, hb, hml, ho, -⟩ := S
  intro T hT X
  rcases vx_callS X hx (bytes := bytes) (maxL := maxL) (ret := ret) ho hl hstt hini hcode hy hK hg (hsize.trans hml.symm) (argsL := As) (rest := rest) (fun sig h => hn.trans (hlen sig h)) hstack hW (by rw [hb]; exact hdg)
    (fun vm₁ hW₁ => ⟨hf.1, hf.2, hp.2 (T.setVm vm₁) hT hW₁⟩) with ⟨v, vm₁, ⟨U', l2, c2, s2⟩, hW₁, X', ⟨g', mk, t, L, e1, e2, hq, h1, hL, h2, h3⟩, st⟩ | ⟨q, vm₁, ⟨U', l2, c2, s2⟩, hW₁, X', ⟨g', mk, t, L, E, ce, e1, e2, hq, hce, hcv, hcl, h1, hL, h2, h3⟩, st⟩
  · dsimp only [Pt.U, Pt.locs, Pt.cells, Pt.slots] at X' e1 e2 h1 h2 h3 st
    subst h1; subst h2; subst h3
    exact Or.inl ⟨v, (T.setVm vm₁).calling g' mk As.toArray, t, U', L, hT, X', hL, e1, e2, hq, st⟩
  · dsimp only [Pt.U, Pt.locs, Pt.cells, Pt.slots] at X' e1 e2 h1 h2 h3 st hcl
    subst h1; subst h2; subst h3
    exact Or.inr ⟨q, (T.setVm vm₁).calling g' mk As.toArray, t, U', L, E, ce, hT, X', hL, e1, e2, hq, hce, hcv, vx_cls hW₁ hcl, st⟩
end Runs
section Rows
variable {p : Program} {l : Launch} {e : Env} {R : Room} {s : State} {m : MethodId} {args : Array Value} {below : List Frame} {meth : Method} {c : Code} {H : Heap} {locs : List Loc} {cells slots : Nat} {Q : State → Prop}
variable {mc ms : Nat} {free : Addr → Prop} {A0 A1 : Nat → Prop} {H0 : Heap} {a : Array Value} {pc : Nat} {ls : Array Slot} {st0 rest : List Value}
theorem vx_keep {st₀ t T' : State} {L : List Loc} (h0 : st₀.heap = H) (e1 : T'.heap = t.heap) (hS : va_S A0 H0 H locs) (hA : ∀ q, q < H.size → A1 q → A0 q) (hf : ∀ q, free q → A0 q) (hL : ∀ q ∈ L, free q.base) (hF : va_F A1 st₀ t) :
    H.size ≤ T'.heap.size ∧ (∀ q : Nat, q < H.size → ¬ A1 q → T'.heap[q]? = H[q]?) ∧ va_S A0 H0 T'.heap (locs ++ L) := by
  obtain ⟨hz, hk⟩ := hF
  rw [h0] at hz hk
  exact ⟨by rw [e1]; exact hz, fun q h1 h2 => by rw [e1]; exact hk q h1 h2,
    ⟨Nat.le_trans hS.1 (by rw [e1]; exact hz), fun q h1 h2 => by rw [e1, hk q (Nat.lt_of_lt_of_le h1 hS.1) (fun z => h2 (hA q (Nat.lt_of_lt_of_le h1 hS.1) z))]; exact hS.2.1 q h1 h2, fun q hq => by
      rcases List.mem_append.mp hq with h | h
      · exact hS.2.2 q h
      · exact hf _ (hL q h)⟩⟩
theorem vx_calli {S SX : Type} {post : Int32 → S → Prop} {px : SX → Prop} {B : S → State → Prop} {BX : String → SX → State → Prop} {AX : Nat → Prop} (hr : vx_Run p l e R s m args below meth c H locs cells slots mc ms (F0 m pc ls st0) rest (va_Qi post B A1 a) (vx_X px BX AX) free) (hS : va_S A0 H0 H locs) (hA : ∀ q, q < H.size → A1 q → A0 q) (hf : ∀ q, free q → A0 q) (hAX : ∀ q, q < H.size → AX q → A0 q)
    (kx : ∀ (E : String) (ce : Cell) (q9 : Addr) (u : SX) (t : State) (H1 : Heap) (locs1 : List Loc), t.heap = H1 → s.vm.Alike t.vm → px u → BX E u t → H.size ≤ H1.size → (∀ q : Nat, q < H.size → ¬ AX q → H1[q]? = H[q]?) → va_S A0 H0 H1 locs1 → H1[q9]? = some ce → ce.vm = .none → s.vm.findClass E = some ce.cls → vx_W p l e R s m args below meth c H1 locs1 (cells + mc) (slots + ms) Q (F0 m pc ls rest) q9)
    (kk : ∀ (r : Int32) (u : S) (t : State) (H1 : Heap) (locs1 : List Loc), t.heap = H1 → s.vm.Alike t.vm → post r u → B u t → H.size ≤ H1.size → (∀ q : Nat, q < H.size → ¬ A1 q → H1[q]? = H[q]?) → va_S A0 H0 H1 locs1 → W p l e R s m args below meth c H1 locs1 (cells + mc) (slots + ms) Q (F0 m (pc + 3) ls (.int r :: rest))) : W p l e R s m args below meth c H locs cells slots Q (F0 m pc ls st0) := by
  intro T hT X
  rcases hr T hT X with ⟨v, st₀, t, T', L, h0, X', hL, e1, e2, ⟨⟨r, u, hv, hp, hb⟩, hF⟩, st⟩ | ⟨q, st₀, t, T', L, E, ce, h0, X', hL, e1, e2, ⟨u, hp, hb, hF⟩, hce, hcv, hcl, st⟩
  · cases hv
    obtain ⟨k1, k2, k3⟩ := vx_keep h0 e1 hS hA hf hL hF
    obtain ⟨t2, a1, b1⟩ := kk r u t T'.heap (locs ++ L) e1.symm (by rw [← e2]; exact X'.warmed.alike) hp hb k1 k2 k3 T' rfl X'
    exact ⟨t2, st t2 a1, b1⟩
  · obtain ⟨k1, k2, k3⟩ := vx_keep h0 e1 hS hAX hf hL hF
    obtain ⟨t2, a1, b1⟩ := kx E ce q u t T'.heap (locs ++ L) e1.symm (by rw [← e2]; exact X'.warmed.alike) hp hb k1 k2 k3 (by rw [e1]; exact hce) hcv hcl T' rfl X'
    exact ⟨t2, st.trans a1, b1⟩
theorem vx_calll {S SX : Type} {post : Int64 → S → Prop} {px : SX → Prop} {B : S → State → Prop} {BX : String → SX → State → Prop} {AX : Nat → Prop} (hr : vx_Run p l e R s m args below meth c H locs cells slots mc ms (F0 m pc ls st0) rest (va_Ql post B A1 a) (vx_X px BX AX) free) (hS : va_S A0 H0 H locs) (hA : ∀ q, q < H.size → A1 q → A0 q) (hf : ∀ q, free q → A0 q) (hAX : ∀ q, q < H.size → AX q → A0 q)
    (kx : ∀ (E : String) (ce : Cell) (q9 : Addr) (u : SX) (t : State) (H1 : Heap) (locs1 : List Loc), t.heap = H1 → s.vm.Alike t.vm → px u → BX E u t → H.size ≤ H1.size → (∀ q : Nat, q < H.size → ¬ AX q → H1[q]? = H[q]?) → va_S A0 H0 H1 locs1 → H1[q9]? = some ce → ce.vm = .none → s.vm.findClass E = some ce.cls → vx_W p l e R s m args below meth c H1 locs1 (cells + mc) (slots + ms) Q (F0 m pc ls rest) q9)
    (kk : ∀ (r : Int64) (u : S) (t : State) (H1 : Heap) (locs1 : List Loc), t.heap = H1 → s.vm.Alike t.vm → post r u → B u t → H.size ≤ H1.size → (∀ q : Nat, q < H.size → ¬ A1 q → H1[q]? = H[q]?) → va_S A0 H0 H1 locs1 → W p l e R s m args below meth c H1 locs1 (cells + mc) (slots + ms) Q (F0 m (pc + 3) ls (.long r :: rest))) : W p l e R s m args below meth c H locs cells slots Q (F0 m pc ls st0) := by
  intro T hT X
  rcases hr T hT X with ⟨v, st₀, t, T', L, h0, X', hL, e1, e2, ⟨⟨r, u, hv, hp, hb⟩, hF⟩, st⟩ | ⟨q, st₀, t, T', L, E, ce, h0, X', hL, e1, e2, ⟨u, hp, hb, hF⟩, hce, hcv, hcl, st⟩
  · cases hv
    obtain ⟨k1, k2, k3⟩ := vx_keep h0 e1 hS hA hf hL hF
    obtain ⟨t2, a1, b1⟩ := kk r u t T'.heap (locs ++ L) e1.symm (by rw [← e2]; exact X'.warmed.alike) hp hb k1 k2 k3 T' rfl X'
    exact ⟨t2, st t2 a1, b1⟩
  · obtain ⟨k1, k2, k3⟩ := vx_keep h0 e1 hS hAX hf hL hF
    obtain ⟨t2, a1, b1⟩ := kx E ce q u t T'.heap (locs ++ L) e1.symm (by rw [← e2]; exact X'.warmed.alike) hp hb k1 k2 k3 (by rw [e1]; exact hce) hcv hcl T' rfl X'
    exact ⟨t2, st.trans a1, b1⟩
theorem vx_callf {S SX : Type} {post : UInt32 → S → Prop} {px : SX → Prop} {B : S → State → Prop} {BX : String → SX → State → Prop} {AX : Nat → Prop} (hr : vx_Run p l e R s m args below meth c H locs cells slots mc ms (F0 m pc ls st0) rest (va_Qf post B A1 a) (vx_X px BX AX) free) (hS : va_S A0 H0 H locs) (hA : ∀ q, q < H.size → A1 q → A0 q) (hf : ∀ q, free q → A0 q) (hAX : ∀ q, q < H.size → AX q → A0 q)
    (kx : ∀ (E : String) (ce : Cell) (q9 : Addr) (u : SX) (t : State) (H1 : Heap) (locs1 : List Loc), t.heap = H1 → s.vm.Alike t.vm → px u → BX E u t → H.size ≤ H1.size → (∀ q : Nat, q < H.size → ¬ AX q → H1[q]? = H[q]?) → va_S A0 H0 H1 locs1 → H1[q9]? = some ce → ce.vm = .none → s.vm.findClass E = some ce.cls → vx_W p l e R s m args below meth c H1 locs1 (cells + mc) (slots + ms) Q (F0 m pc ls rest) q9)
    (kk : ∀ (r : UInt32) (u : S) (t : State) (H1 : Heap) (locs1 : List Loc), t.heap = H1 → s.vm.Alike t.vm → post r u → B u t → H.size ≤ H1.size → (∀ q : Nat, q < H.size → ¬ A1 q → H1[q]? = H[q]?) → va_S A0 H0 H1 locs1 → W p l e R s m args below meth c H1 locs1 (cells + mc) (slots + ms) Q (F0 m (pc + 3) ls (.float r :: rest))) : W p l e R s m args below meth c H locs cells slots Q (F0 m pc ls st0) := by
  intro T hT X
  rcases hr T hT X with ⟨v, st₀, t, T', L, h0, X', hL, e1, e2, ⟨⟨r, u, hv, hp, hb⟩, hF⟩, st⟩ | ⟨q, st₀, t, T', L, E, ce, h0, X', hL, e1, e2, ⟨u, hp, hb, hF⟩, hce, hcv, hcl, st⟩
  · cases hv
    obtain ⟨k1, k2, k3⟩ := vx_keep h0 e1 hS hA hf hL hF
    obtain ⟨t2, a1, b1⟩ := kk r u t T'.heap (locs ++ L) e1.symm (by rw [← e2]; exact X'.warmed.alike) hp hb k1 k2 k3 T' rfl X'
    exact ⟨t2, st t2 a1, b1⟩
  · obtain ⟨k1, k2, k3⟩ := vx_keep h0 e1 hS hAX hf hL hF
    obtain ⟨t2, a1, b1⟩ := kx E ce q u t T'.heap (locs ++ L) e1.symm (by rw [← e2]; exact X'.warmed.alike) hp hb k1 k2 k3 (by rw [e1]; exact hce) hcv hcl T' rfl X'
    exact ⟨t2, st.trans a1, b1⟩
theorem vx_calld {S SX : Type} {post : UInt64 → S → Prop} {px : SX → Prop} {B : S → State → Prop} {BX : String → SX → State → Prop} {AX : Nat → Prop} (hr : vx_Run p l e R s m args below meth c H locs cells slots mc ms (F0 m pc ls st0) rest (va_Qd post B A1 a) (vx_X px BX AX) free) (hS : va_S A0 H0 H locs) (hA : ∀ q, q < H.size → A1 q → A0 q) (hf : ∀ q, free q → A0 q) (hAX : ∀ q, q < H.size → AX q → A0 q)
    (kx : ∀ (E : String) (ce : Cell) (q9 : Addr) (u : SX) (t : State) (H1 : Heap) (locs1 : List Loc), t.heap = H1 → s.vm.Alike t.vm → px u → BX E u t → H.size ≤ H1.size → (∀ q : Nat, q < H.size → ¬ AX q → H1[q]? = H[q]?) → va_S A0 H0 H1 locs1 → H1[q9]? = some ce → ce.vm = .none → s.vm.findClass E = some ce.cls → vx_W p l e R s m args below meth c H1 locs1 (cells + mc) (slots + ms) Q (F0 m pc ls rest) q9)
    (kk : ∀ (r : UInt64) (u : S) (t : State) (H1 : Heap) (locs1 : List Loc), t.heap = H1 → s.vm.Alike t.vm → post r u → B u t → H.size ≤ H1.size → (∀ q : Nat, q < H.size → ¬ A1 q → H1[q]? = H[q]?) → va_S A0 H0 H1 locs1 → W p l e R s m args below meth c H1 locs1 (cells + mc) (slots + ms) Q (F0 m (pc + 3) ls (.double r :: rest))) : W p l e R s m args below meth c H locs cells slots Q (F0 m pc ls st0) := by
  intro T hT X
  rcases hr T hT X with ⟨v, st₀, t, T', L, h0, X', hL, e1, e2, ⟨⟨r, u, hv, hp, hb⟩, hF⟩, st⟩ | ⟨q, st₀, t, T', L, E, ce, h0, X', hL, e1, e2, ⟨u, hp, hb, hF⟩, hce, hcv, hcl, st⟩
  · cases hv
    obtain ⟨k1, k2, k3⟩ := vx_keep h0 e1 hS hA hf hL hF
    obtain ⟨t2, a1, b1⟩ := kk r u t T'.heap (locs ++ L) e1.symm (by rw [← e2]; exact X'.warmed.alike) hp hb k1 k2 k3 T' rfl X'
    exact ⟨t2, st t2 a1, b1⟩
  · obtain ⟨k1, k2, k3⟩ := vx_keep h0 e1 hS hAX hf hL hF
    obtain ⟨t2, a1, b1⟩ := kx E ce q u t T'.heap (locs ++ L) e1.symm (by rw [← e2]; exact X'.warmed.alike) hp hb k1 k2 k3 (by rw [e1]; exact hce) hcv hcl T' rfl X'
    exact ⟨t2, st.trans a1, b1⟩
theorem vx_callv {S SX : Type} {post : S → Prop} {px : SX → Prop} {B : S → State → Prop} {BX : String → SX → State → Prop} {AX : Nat → Prop} (hr : vx_Run p l e R s m args below meth c H locs cells slots mc ms (F0 m pc ls st0) rest (va_Qv post B A1 a) (vx_X px BX AX) free) (hS : va_S A0 H0 H locs) (hA : ∀ q, q < H.size → A1 q → A0 q) (hf : ∀ q, free q → A0 q) (hAX : ∀ q, q < H.size → AX q → A0 q)
    (kx : ∀ (E : String) (ce : Cell) (q9 : Addr) (u : SX) (t : State) (H1 : Heap) (locs1 : List Loc), t.heap = H1 → s.vm.Alike t.vm → px u → BX E u t → H.size ≤ H1.size → (∀ q : Nat, q < H.size → ¬ AX q → H1[q]? = H[q]?) → va_S A0 H0 H1 locs1 → H1[q9]? = some ce → ce.vm = .none → s.vm.findClass E = some ce.cls → vx_W p l e R s m args below meth c H1 locs1 (cells + mc) (slots + ms) Q (F0 m pc ls rest) q9)
    (kk : ∀ (u : S) (t : State) (H1 : Heap) (locs1 : List Loc), t.heap = H1 → s.vm.Alike t.vm → post u → B u t → H.size ≤ H1.size → (∀ q : Nat, q < H.size → ¬ A1 q → H1[q]? = H[q]?) → va_S A0 H0 H1 locs1 → W p l e R s m args below meth c H1 locs1 (cells + mc) (slots + ms) Q (F0 m (pc + 3) ls (rest))) : W p l e R s m args below meth c H locs cells slots Q (F0 m pc ls st0) := by
  intro T hT X
  rcases hr T hT X with ⟨v, st₀, t, T', L, h0, X', hL, e1, e2, ⟨⟨u, hv, hp, hb⟩, hF⟩, st⟩ | ⟨q, st₀, t, T', L, E, ce, h0, X', hL, e1, e2, ⟨u, hp, hb, hF⟩, hce, hcv, hcl, st⟩
  · cases hv
    obtain ⟨k1, k2, k3⟩ := vx_keep h0 e1 hS hA hf hL hF
    obtain ⟨t2, a1, b1⟩ := kk u t T'.heap (locs ++ L) e1.symm (by rw [← e2]; exact X'.warmed.alike) hp hb k1 k2 k3 T' rfl X'
    exact ⟨t2, st t2 a1, b1⟩
  · obtain ⟨k1, k2, k3⟩ := vx_keep h0 e1 hS hAX hf hL hF
    obtain ⟨t2, a1, b1⟩ := kx E ce q u t T'.heap (locs ++ L) e1.symm (by rw [← e2]; exact X'.warmed.alike) hp hb k1 k2 k3 (by rw [e1]; exact hce) hcv hcl T' rfl X'
    exact ⟨t2, st.trans a1, b1⟩
/-- caught by the row x of this method's table; the rows ahead don't take it -/
theorem vx_catch {own name : String} {E : String} {ce : Cell} {q : Addr} (hown : s.vm.findClass own = some m.cls) (pre : List ExceptionTableEntry) (x : ExceptionTableEntry) (suf : List ExceptionTableEntry) (hsplit : c.exceptionTable.toList = pre ++ x :: suf)
    (hpass : ∀ z ∈ pre, covers z pc = false ∨ (z.catchType ≠ 0 ∧ ∃ nm : String, (Cond.classLink own z.catchType nm).before args s = true ∧ va_Nc E nm s)) (hx : covers x pc = true) (h0 : x.catchType ≠ 0)
    (hlink : (Cond.classLink own x.catchType name).before args s = true) (hcast : (Cond.castable E name).before args s = true) (hcell : H[q]? = some ce) (hv : ce.vm = .none) (hcl : s.vm.findClass E = some ce.cls)
    (kk : W p l e R s m args below meth c H locs cells slots Q (F0 m x.handlerPc ls [.ref q])) : vx_W p l e R s m args below meth c H locs cells slots Q (F0 m pc ls rest) q := by
  intro T hT X
  have hpl : e.platform.magicAccessors = ({} : Platform).magicAccessors := by rw [X.admits.platform]
  obtain ⟨c3, c4, hc3, hc4, hasg⟩ := Cond.castable_spec hcast
  cases Option.some.inj (hc3.symm.trans hcl)
  obtain ⟨c5, hc5, hcl5⟩ := Cond.classLink_spec hown hlink e.platform hpl
  cases Option.some.inj (hc4.symm.trans hc5)
  obtain ⟨vm', X', st⟩ := X.thenCaughtThrough q (g := F0 m pc ls rest) rfl (Steps.refl _) (by rw [hT]; exact hcell) (by rw [hv]; rfl) (by obtain ⟨k9, h9, -⟩ := Vm.findClass_spec hcl; exact ⟨k9, h9⟩) pre x suf hsplit
    (fun z hz => by
      rcases hpass z hz with h | ⟨hz0, nm, hl1, hn1⟩
      · exact Or.inl h
      · obtain ⟨c6, hc6, hcl6⟩ := Cond.classLink_spec hown hl1 e.platform hpl
        obtain ⟨a8, b8, h1, h2, h3⟩ := hn1
        cases Option.some.inj (h1.symm.trans hcl)
        cases Option.some.inj (h2.symm.trans hc6)
        exact Or.inr ⟨hz0, _, hcl6, h3⟩) hx (Or.inr ⟨h0, c4, hcl5, hasg⟩)
  obtain ⟨t, a1, b1⟩ := kk (T.setVm vm') hT X'
  exact ⟨t, st.trans a1, b1⟩
end Rows
section Ends
variable {p : Program} {l : Launch} {e : Env} {R : Room} {s : State} {m : MethodId} {args : Array Value} {below : List Frame} {meth : Method} {c : Code} {H : Heap} {locs : List Loc} {cells slots : Nat} {Q : State → Prop}
variable {mc ms : Nat} {free : Addr → Prop} {A0 A1 : Nat → Prop} {H0 : Heap} {a : Array Value} {ls : Array Slot} {st0 rest : List Value}
variable {Qc : Array Value → State → Outcome → State → Prop} {XC : String → State → State → Prop}
/-- what a body that may throw owes at its end -/
def vx_MQ (below : List Frame) (Qc : Array Value → State → Outcome → State → Prop) (XC : String → State → State → Prop) (a : Array Value) (s : State) (mc ms : Nat) (free : Addr → Prop) : State → Prop := fun t =>
  ∃ o, t.status = .running ∧ Ended t below o ∧ vx_Q Qc XC mc ms free a s o t
theorem vx_ret {g : JFrame} {mc ms : Nat} (k : W p l e R s m args below meth c H locs cells slots (MQ below Qc args s mc ms free) g) : W p l e R s m args below meth c H locs cells slots (vx_MQ below Qc XC args s mc ms free) g := by
  intro T hT X
  obtain ⟨t, a1, o, b1, b2, b3, b4⟩ := k T hT X
  exact ⟨t, a1, o, b1, b2, Or.inl ⟨b3, b4⟩⟩
/-- not caught here: it goes on to the caller -/
theorem vx_widen {g : JFrame} {q : Addr} {k n : Nat} (h1 : cells ≤ k) (h2 : slots ≤ n) (kk : vx_W p l e R s m args below meth c H locs k n Q g q) : vx_W p l e R s m args below meth c H locs cells slots Q g q := fun T hT X => kk T hT (stand_widen X h1 h2)
theorem vx_out {pc : Nat} {E : String} {ce : Cell} {q : Addr} {mc ms : Nat} (hout : ∀ x ∈ c.exceptionTable.toList, covers x pc = false) (hlocks : meth.locks = false) (hcell : H[q]? = some ce) (hv : ce.vm = .none) (hcl : s.vm.findClass E = some ce.cls)
    (hx : ∀ t : State, t.heap = H → s.vm.Alike t.vm → XC E s t) (hf : ∀ z ∈ locs, free z.base) (hc : cells ≤ mc) (hs : slots ≤ ms) :
    vx_W p l e R s m args below meth c H locs cells slots (vx_MQ below Qc XC args s mc ms free) (F0 m pc ls rest) q := by
  intro T hT X
  obtain ⟨st1, hrun, hend, hW, hsm⟩ := X.leaveThrown q (g := F0 m pc ls rest) rfl rfl rfl hout hlocks
  have hcell9 : (T.setFrames (.throwing q :: below)).heap[q]? = some ce := by
    show T.heap[q]? = some ce
    rw [hT]; exact hcell
  exact ⟨_, st1, .threw q, hrun, hend, Or.inr ⟨q, rfl, E, ce, locs, hx _ hT hW.alike, hcell9, hv, hcl, hW, hsm.mono hc hs, hf⟩⟩
theorem vx_frame {U : State} {k n : Nat} (h : s.sameButNew ({ U with vm := s.vm } : State) locs k n) : s.heap.size ≤ U.heap.size ∧ ∀ q : Nat, q < s.heap.size → (∀ z ∈ locs, z.base ≠ q) → U.heap[q]? = s.heap[q]? := by
  obtain ⟨-, h2, -, -, -, h6⟩ := h
  refine ⟨h2, fun q hq hz => ?_⟩
  obtain ⟨c9, e1, e2, e3, e4⟩ := h6 q _ (Array.getElem?_eq_getElem hq)
  have hs : c9.slots = (s.heap[q]).slots := Array.ext_getElem? fun i => e4 i fun hm => hz _ hm rfl
  have h9 : c9 = s.heap[q] := by
    rw [hs] at e2
    exact e2
  have e5 : U.heap[q]? = some c9 := e1
  rw [e5, h9, Array.getElem?_eq_getElem hq]
/-- the words of a throw but the four that speak of the heap -/
def vx_no (w : Cond) : Bool := decide (w ≠ .isRef (.static Bundle.tN "UNASSIGNED_STACK" Bundle.steD)) && decide (w ≠ .isRef (.static Bundle.tN "SUPPRESSED_SENTINEL" Bundle.listD)) && decide (w ≠ .laysStatic Bundle.tN "UNASSIGNED_STACK" Bundle.steD) && decide (w ≠ .laysStatic Bundle.tN "SUPPRESSED_SENTINEL" Bundle.listD)
def vx_at0 (own : String) (ic : Nat) (X : String) (names : List String) : List Cond := (Bundle.ownAtoms0 own ic X names).filter vx_no
def vx_atS (own : String) (ic : Nat) (X : String) (names : List String) : List Cond := (Bundle.ownAtoms own ic X names).filter vx_no
/-- a word that the tables alone decide, or a good one -/
def vx_ot (w : Cond) : Bool := w.onTables || goodWord w
theorem vx_ot_at {args a' : Array Value} {s U : State} {w : Cond} (hW : s.WarmedH U.vm) (hvm : s.vm = U.vm) (hg : vx_ot w = true) (h : w.before args s = true) : w.before a' U = true := by
  simp only [vx_ot, Bool.or_eq_true] at hg
  rcases hg with hg | hg
  · exact va_tabs hg hvm h
  · exact word_at hW (good_of_word hg) h
/-- a list's words: the good ones out of the method's own list, the others by premises of their own -/
theorem vx_hat {args : Array Value} {s : State} {L B : List Cond} (h1 : ∀ w ∈ L.filter goodWord, w.before args s = true) (h2 : ∀ w ∈ L.filter (fun w => !goodWord w), w ∈ B) (h3 : ∀ w ∈ B, w.before args s = true) : ∀ w ∈ L, w.before args s = true := by
  intro w hw
  by_cases g : goodWord w = true
  · exact h1 w (List.mem_filter.mpr ⟨hw, g⟩)
  · refine h3 w (h2 w (List.mem_filter.mpr ⟨hw, ?_⟩))
    show (!goodWord w) = true
    cases hgw : goodWord w
    · rfl
    · exact absurd hgw g
theorem vx_c {args : Array Value} {s : State} {w : Cond} {B : List Cond} (h : w.before args s = true) (t : ∀ w ∈ B, w.before args s = true) : ∀ w' ∈ w :: B, w'.before args s = true := fun w' h' => (List.mem_cons.mp h').elim (fun e => by rw [e]; exact h) (t w')
theorem vx_n {args : Array Value} {s : State} : ∀ w ∈ ([] : List Cond), w.before args s = true := fun _ h => nomatch h
theorem vx_own {args : Array Value} {s : State} {L : List Cond} (h1 : ∀ w ∈ L.filter vx_no, w.before args s = true)
    (hU : (Cond.isRef (.static Bundle.tN "UNASSIGNED_STACK" Bundle.steD)).before args s = true) (hN : (Cond.isRef (.static Bundle.tN "SUPPRESSED_SENTINEL" Bundle.listD)).before args s = true)
    (lU : (Cond.laysStatic Bundle.tN "UNASSIGNED_STACK" Bundle.steD).before args s = true) (lN : (Cond.laysStatic Bundle.tN "SUPPRESSED_SENTINEL" Bundle.listD).before args s = true) : ∀ w ∈ L, w.before args s = true := by
  intro w hw
  by_cases e1 : w = .isRef (.static Bundle.tN "UNASSIGNED_STACK" Bundle.steD)
  · rw [e1]; exact hU
  · by_cases e2 : w = .isRef (.static Bundle.tN "SUPPRESSED_SENTINEL" Bundle.listD)
    · rw [e2]; exact hN
    · by_cases e3 : w = .laysStatic Bundle.tN "UNASSIGNED_STACK" Bundle.steD
      · rw [e3]; exact lU
      · by_cases e4 : w = .laysStatic Bundle.tN "SUPPRESSED_SENTINEL" Bundle.listD
        · rw [e4]; exact lN
        · exact h1 w (List.mem_filter.mpr ⟨hw, by unfold vx_no; rw [decide_eq_true e1, decide_eq_true e2, decide_eq_true e3, decide_eq_true e4]; rfl⟩)
/-- where a static field lies, its class's statics cell in H -/
def vx_L (C n d : String) (A : Nat → Prop) (U : State) (H : Heap) : Prop := ∃ (c : ClassId) (k : Class) (i : Nat) (f : Field) (a : Nat) (cell : Cell), U.vm.findClass C = some c ∧ U.fieldFound? C n d = some (c, k, i, f) ∧ f.isStatic = true ∧ k.statics = some a ∧ H[a]? = some cell ∧ cell.vm.isStatics = true ∧ cell.cls = c ∧ f.slot < cell.slots.size ∧ k.staticTypes[f.slot]? = some f.type ∧ ¬ A a
theorem vx_L.moved {C n d : String} {A : Nat → Prop} {u U : State} {H : Heap} (hvm : u.vm.Alike U.vm) (h : vx_L C n d A u H) : vx_L C n d A U H := by
  obtain ⟨c, k, i, f, a, cell, h1, h2, h3, h4, h5, h6, h7, h8, h9, h10⟩ := h
  obtain ⟨k', hi', he⟩ := State.fieldFound?_setVm hvm h2
  exact ⟨c, k', i, f, a, cell, by rw [hvm.findClass]; exact h1, hi', h3, by rw [he]; exact h4, h5, h6, h7, h8, by rw [he]; exact h9, h10⟩
theorem vx_L.kept {C n d : String} {A : Nat → Prop} {U : State} {H H1 : Heap} (h : vx_L C n d A U H) (hq : ∀ a : Nat, a < H.size → ¬ A a → H1[a]? = H[a]?) : vx_L C n d A U H1 := by
  obtain ⟨c, k, i, f, a, cell, h1, h2, h3, h4, h5, h6, h7, h8, h9, h10⟩ := h
  exact ⟨c, k, i, f, a, cell, h1, h2, h3, h4, by rw [hq a (Array.getElem?_eq_some_iff.mp h5).1 h10]; exact h5, h6, h7, h8, h9, h10⟩
theorem vx_L.narrow {C n d : String} {A B : Nat → Prop} {U : State} {H : Heap} (h : vx_L C n d A U H) (hAB : ∀ q, B q → A q) : vx_L C n d B U H := by
  obtain ⟨c, k, i, f, a, cell, h1, h2, h3, h4, h5, h6, h7, h8, h9, h10⟩ := h
  exact ⟨c, k, i, f, a, cell, h1, h2, h3, h4, h5, h6, h7, h8, h9, fun z => h10 (hAB _ z)⟩
theorem vx_L.word {C n d : String} {A : Nat → Prop} {s : State} {args : Array Value} (h : vx_L C n d A s s.heap) : (Cond.laysStatic C n d).before args s = true := by
  obtain ⟨c, k, i, f, a, cell, h1, h2, h3, h4, h5, h6, h7, h8, h9, -⟩ := h
  show (Cond.laysStatic C n d).holds args s none s [] = true
  exact Cond.laysStatic_of h1 h2 h3 h4 h5 h6 h7 h8 h9
/-- .. and what it holds: null or some reference -/
def vx_Zq (C n d : String) (A : Nat → Prop) (U : State) (H : Heap) : Prop := va_Zq C n d A U H ∧ vx_L C n d A U H
theorem vx_Zq.moved {C n d : String} {A : Nat → Prop} {u U : State} {H : Heap} (hvm : u.vm.Alike U.vm) (h : vx_Zq C n d A u H) : vx_Zq C n d A U H := ⟨va_Zq.moved hvm h.1, vx_L.moved hvm h.2⟩
theorem vx_Zq.kept {C n d : String} {A : Nat → Prop} {U : State} {H H1 : Heap} (h : vx_Zq C n d A U H) (hq : ∀ a : Nat, a < H.size → ¬ A a → H1[a]? = H[a]?) : vx_Zq C n d A U H1 := ⟨va_Zq.kept h.1 hq, vx_L.kept h.2 hq⟩
theorem vx_Zq.narrow {C n d : String} {A B : Nat → Prop} {U : State} {H : Heap} (h : vx_Zq C n d A U H) (hAB : ∀ q, B q → A q) : vx_Zq C n d B U H := ⟨va_Zq.narrow h.1 hAB, vx_L.narrow h.2 hAB⟩
theorem vx_Zqof {args : Array Value} {s : State} {C n d : String} {A : Nat → Prop} (hl : (Cond.laysStatic C n d).before args s = true) (hini : (Cond.initialized C).before args s = true) (h : (Cond.isRef (.static C n d)).before args s = true) (hA : ∀ a : Nat, a < s.heap.size → ¬ A a) : vx_Zq C n d A s s.heap := by
  refine ⟨va_Zqof hl hini h hA, ?_⟩
  obtain ⟨c, k, i, f, a, cell, h1, h2, h3, h4, h5, h6, h7, h8, h9⟩ := Cond.laysStatic_spec hl
  exact ⟨c, k, i, f, a, cell, h1, h2, h3, h4, h5, h6, h7, h8, h9, hA a (Array.getElem?_eq_some_iff.mp h5).1⟩
theorem vx_isRef {C n d : String} {v : Value} {A : Nat → Prop} {s : State} {args : Array Value} (h : va_Z C n d v A s s.heap) (hv : v.isRef = true) : (Cond.isRef (.static C n d)).before args s = true := by
  obtain ⟨cf, kf, fi, f, a, cell, h1, h2, h3, h4, h5, h6, h7, -⟩ := h
  have he : (Term.static C n d).eval args s none [] s = some v := by
    simp [Term.eval, State.fieldNamed?, h1, h2, h4, h5, h6, h7]
  simp only [Cond.before, Cond.holds, Cond.value, he]
  cases v <;> simp_all [Value.isRef]
theorem vx_isRefq {C n d : String} {A : Nat → Prop} {s : State} {args : Array Value} (h : va_Zq C n d A s s.heap) : (Cond.isRef (.static C n d)).before args s = true := by
  rcases h with h | ⟨t, h⟩
  · exact vx_isRef h rfl
  · exact vx_isRef h rfl
/-- the same frame, seen from here: as if the method were called anew in this heap -/
theorem vx_rebase {T : State} (X : Stand p l e R s m args below meth c T locs cells slots) {R' : Room} (hf : R'.frames ≤ R.frames) (hl : R'.locals ≤ R.locals) (hc : cells + R'.cells ≤ R.cells) (hs : slots + R'.slots ≤ R.slots) :
    Stand p l e R' ((T.setVm s.vm).setFrames (.invoking m args :: below)) m args below meth c T [] 0 0 := by
  have htop : (T.setVm s.vm).topJava?.isSome := X.here.top
  have hF : ((T.setVm s.vm).setFrames (.invoking m args :: below)).frames = .invoking m args :: below := State.frames_setFrames _ (State.cur_lt_of_top htop)
  obtain ⟨g₀, hg0⟩ := Option.isSome_iff_exists.mp htop
  obtain ⟨r, hr⟩ := State.topJava?_eq_some.mp hg0
  have hl9 : e.platform.stackLimits (T.setVm s.vm).me = e.platform.stackLimits s.me := X.limits
  have hb9 : (T.setVm s.vm).me.stackBytes = s.me.stackBytes := X.bytes
  refine ⟨X.admits, X.cas, X.clock, hF, ?_, X.hears, X.method, X.code, X.here, X.tail, X.warmed, ?_, ?_, ?_⟩
  · have h := X.room
    have hU : ((T.setVm s.vm).setFrames (.invoking m args :: below)).localsInUse = s.localsInUse := by
      rw [State.localsInUse_invoking hF (meth := meth) (c := c) X.method X.code, State.localsInUse_invoking X.frames X.method X.code]
    simp only [State.hasRoom, Bool.and_eq_true, decide_eq_true_eq] at h ⊢
    obtain ⟨⟨⟨⟨h1, h2, h3, h4, h5, h6⟩, h7⟩, h8⟩, h9⟩ := h
    rw [X.frames, List.length_cons] at h2 h3
    have q1 := X.heapSize
    have q2 := X.used
    simp only [hF, hU, List.length_cons, State.stackLimits_setFrames, State.stackBytes_setFrames, hl9, hb9]
    refine ⟨⟨⟨⟨by omega, by omega, by omega, by omega, by omega, h6⟩, ?_⟩, ?_⟩, X.book⟩
    · show T.heap.size + R'.cells ≤ e.platform.maxCells
      omega
    · show T.slotsUsed + R'.slots ≤ e.platform.maxSlots
      omega
  · rw [State.stackLimits_setFrames]; rfl
  · rw [State.stackBytes_setFrames]; rfl
  · refine ⟨?_, Nat.le_refl _, Nat.le_refl _, ?_, ?_, fun a c9 h9 => ⟨c9, h9, rfl, rfl, fun _ _ => rfl⟩⟩
    · obtain ⟨t, ht, -⟩ := State.frames_cons hr
      show T.setVm s.vm = { ((T.setVm s.vm).setFrames (.invoking m args :: below)).setFrames (T.setVm s.vm).frames with heap := T.heap, slotsUsed := T.slotsUsed }
      rw [State.setFrames_setFrames, State.setFrames_self ht]
      rfl
    · show T.slotsUsed = T.slotsUsed + ((T.heap.toList.drop T.heap.size).map (·.slots.size)).sum
      rw [List.drop_eq_nil_of_le (Nat.le_of_eq Array.length_toList)]
      rfl
    · show ((T.heap.toList.drop T.heap.size).map (·.slots.size)).sum ≤ 0
      rw [List.drop_eq_nil_of_le (Nat.le_of_eq Array.length_toList)]
      exact Nat.le_refl _
/-- 'throw new E()': new; dup; invokespecial; athrow -/
theorem vx_throw0 {cc : ByteArray} {pc : Nat} (hexec : p.tables.exec = Jvm.exec) (hb : c.code = cc) (hl : l.stackTraces = false) {own cls : String} {names : List String} {ik ic mc ms : Nat} {A : Nat → Prop}
    (hown : s.vm.findClass own = some m.cls) (hcls : Bundle.fit cls = true) (hnames : ∀ n ∈ names, Bundle.fit n = true)
    (hk : (Cond.classLink own ik cls).before args s = true) (hini : (Cond.initialized cls).before args s = true) (hat : ∀ w ∈ vx_at0 own ic cls names, w.before args s = true)
    (hgood : ∀ w ∈ Cond.classLink own ik cls :: Cond.initialized cls :: vx_at0 own ic cls names, vx_ot w = true)
    (hU : vx_Zq Bundle.tN "UNASSIGNED_STACK" Bundle.steD A s s.heap) (hN : vx_Zq Bundle.tN "SUPPRESSED_SENTINEL" Bundle.listD A s s.heap) (hS : va_S A s.heap H locs) (hsize : ls.size = c.maxLocals)
    (d0 : decode cc pc = .ok (.new ik, 3)) (d3 : decode cc (pc + 3) = .ok (.dup, 1)) (d4 : decode cc (pc + 4) = .ok (.invokespecial ic, 3)) (d7 : decode cc (pc + 7) = .ok (.athrow, 1))
    (hout : ∀ x ∈ c.exceptionTable.toList, covers x (pc + 7) = false)
    (hRframes : names.length + 3 < R.frames) (hRlocals : (rest.map fun v => v.category).sum + (13 * (names.length + 1) + 42) ≤ R.locals) (hRcells : cells + 1 ≤ R.cells) (hRslots : slots + 6 ≤ R.slots) (hlocks : meth.locks = false)
    (hx : ∀ t : State, s.vm.Alike t.vm → H.size ≤ t.heap.size → (∀ q : Nat, q < H.size → t.heap[q]? = H[q]?) → XC cls s t)
    (hf : ∀ z ∈ locs, free z.base) (hc : cells + 1 ≤ mc) (hs : slots + 6 ≤ ms) :
    W p l e R s m args below meth c H locs cells slots (vx_MQ below Qc XC args s mc ms free) (F0 m pc ls rest) := by
  intro T hT X
  have htr : e.platform.stackTraces = false := (show e.platform.stackTraces = l.stackTraces by rw [X.admits.platform]).trans hl
  have Y := vx_rebase X (R' := { frames := R.frames, locals := R.locals, cells := 1, slots := 6 }) (Nat.le_refl _) (Nat.le_refl _) hRcells hRslots
  obtain ⟨s', hA⟩ : ∃ z, z = (T.setVm s.vm).setFrames (.invoking m args :: below) := ⟨_, rfl⟩
  rw [← hA] at Y
  have hvm : s'.vm = s.vm := by rw [hA]; rfl
  have hhp : s'.heap = H := by rw [hA]; exact hT
  have hW0 : s.WarmedH s'.vm := by rw [hvm]; exact State.WarmedH.refl s
  have hat' : ∀ w ∈ vx_at0 own ic cls names, w.before args s' = true := fun w hw => vx_ot_at hW0 hvm.symm (hgood w (List.mem_cons_of_mem _ (List.mem_cons_of_mem _ hw))) (hat w hw)
  have hk' : (Cond.classLink own ik cls).before args s' = true := vx_ot_at hW0 hvm.symm (hgood _ List.mem_cons_self) hk
  have hini' : (Cond.initialized cls).before args s' = true := vx_ot_at hW0 hvm.symm (hgood _ (List.mem_cons_of_mem _ List.mem_cons_self)) hini
  have hU' : vx_Zq Bundle.tN "UNASSIGNED_STACK" Bundle.steD A s' s'.heap := by rw [hhp]; exact vx_Zq.moved hW0.alike (hU.kept hS.2.1)
  have hN' : vx_Zq Bundle.tN "SUPPRESSED_SENTINEL" Bundle.listD A s' s'.heap := by rw [hhp]; exact vx_Zq.moved hW0.alike (hN.kept hS.2.1)
  have h : ∀ w ∈ Bundle.ownAtoms0 own ic cls names, w.before args s' = true := vx_own hat' (vx_isRefq hU'.1) (vx_isRefq hN'.1) hU'.2.word hN'.2.word
  have hown' : s'.vm.findClass own = some m.cls := by rw [hvm]; exact hown
  have hins : (Cond.instantiable cls 6).before args s' = true := h _ (by simp [Bundle.ownAtoms0])
  obtain ⟨vm₁, cX, kX, hfX, hkX, -, -, X₁, st1⟩ := Y.newCold hexec (own := own) (C := cls) (index := ik) (n := 6) hown' hk' hins hini'
    (g := F0 m pc ls rest) rfl (by rw [hb]; exact d0) (Nat.le_refl _) (Nat.le_refl _)
  generalize hT1 : (T.setVm vm₁).pushCell { cls := cX, slots := kX.instanceTypes.map defaultValue, vm := .none } = T1 at X₁ st1
  have hcat : (Value.ref T.heap.size).category = 1 := rfl
  have hcellA : T1.heap[T.heap.size]? = some (freshCell cX kX) := by rw [← hT1]; exact State.heap_pushCell_size _ _
  have d3' : decode c.code (pc + 3) = .ok (.dup, 1) := by rw [hb]; exact d3
  obtain ⟨U, hsteps, hrun, hend, hW, hsame, ce, hce, hO⟩ := X₁.ctorThrow0 hexec htr (own := own) (cls := cls) (names := names) (ic := ic) hown' hcls hnames h (fun x hx => nomatch hx) hfX hkX hcellA (by rw [hhp, hT]; exact Nat.le_refl _)
    (g := { method := m, pc := pc + 4, locals := ls, stack := .ref T.heap.size :: .ref T.heap.size :: rest, locked := none }) rfl hsize rfl rfl (rest := rest) rfl
    (by rw [hb]; exact d4) (by rw [hb]; exact d7) hout hRframes (by simp only [List.map_cons, List.sum_cons, hcat]; omega) hlocks
  obtain ⟨f1, f2⟩ := vx_frame hsame
  rw [hhp] at f1 f2
  have hWs : s.WarmedH U.vm := State.WarmedH.trans hW0 hW
  have hcl : s.vm.findClass cls = some ce.cls := by
    have h9 := hO.cls
    rw [hvm] at h9
    exact h9
  have hall : s.sameButNew ({ U with vm := s.vm } : State) locs mc ms := by
    subst hA
    obtain ⟨e1, e2⟩ := hsame
    rw [State.setFrames_setFrames] at e1
    have h2 : (T.setVm s.vm).sameButNew ({ U with vm := s.vm } : State) [] (0 + 1) (0 + 6) := ⟨e1, e2⟩
    have h3 := X.same.trans h2
    rw [List.append_nil] at h3
    exact h3.mono hc hs
  refine ⟨U, ?_, .threw T.heap.size, hrun, hend, Or.inr ⟨T.heap.size, rfl, cls, ce, locs, hx U hWs.alike f1 (fun q hq => f2 q hq (fun z hz => nomatch hz)), hce, hO.vm, hcl, hWs, hall, hf⟩⟩
  refine st1 _ ?_
  show Steps p.tables e below (T1.setTop { method := m, pc := pc + 3, locals := ls, stack := .ref T.heap.size :: rest, locked := none }) _
  jvm_step X₁.here [X₁.here.top, hexec, d3', Value.category]
  exact hsteps
/-- 'throw new E("text")': new; dup; ldc; invokespecial; athrow -/
theorem vx_throwS {cc : ByteArray} {pc : Nat} (hexec : p.tables.exec = Jvm.exec) (hb : c.code = cc) (hl : l.stackTraces = false) {own cls text : String} {names : List String} {ik is ic mc ms sa : Nat} {A : Nat → Prop}
    (hown : s.vm.findClass own = some m.cls) (hcls : Bundle.fit cls = true) (hnames : ∀ n ∈ names, Bundle.fit n = true)
    (hk : (Cond.classLink own ik cls).before args s = true) (hini : (Cond.initialized cls).before args s = true) (hstr : vk_R own is text sa s) (hat : ∀ w ∈ vx_atS own ic cls names, w.before args s = true)
    (hgood : ∀ w ∈ Cond.classLink own ik cls :: Cond.initialized cls :: vx_atS own ic cls names, vx_ot w = true)
    (hU : vx_Zq Bundle.tN "UNASSIGNED_STACK" Bundle.steD A s s.heap) (hN : vx_Zq Bundle.tN "SUPPRESSED_SENTINEL" Bundle.listD A s s.heap) (hS : va_S A s.heap H locs) (hsize : ls.size = c.maxLocals)
    (d0 : decode cc pc = .ok (.new ik, 3)) (d3 : decode cc (pc + 3) = .ok (.dup, 1)) (d4 : decode cc (pc + 4) = .ok (.ldc is, 2)) (d6 : decode cc (pc + 6) = .ok (.invokespecial ic, 3)) (d9 : decode cc (pc + 9) = .ok (.athrow, 1))
    (hout : ∀ x ∈ c.exceptionTable.toList, covers x (pc + 9) = false)
    (hRframes : names.length + 3 < R.frames) (hRlocals : (rest.map fun v => v.category).sum + (13 * (names.length + 1) + 43) ≤ R.locals) (hRcells : cells + 1 ≤ R.cells) (hRslots : slots + 6 ≤ R.slots) (hlocks : meth.locks = false)
    (hx : ∀ t : State, s.vm.Alike t.vm → H.size ≤ t.heap.size → (∀ q : Nat, q < H.size → t.heap[q]? = H[q]?) → XC cls s t)
    (hf : ∀ z ∈ locs, free z.base) (hc : cells + 1 ≤ mc) (hs : slots + 6 ≤ ms) :
    W p l e R s m args below meth c H locs cells slots (vx_MQ below Qc XC args s mc ms free) (F0 m pc ls rest) := by
  intro T hT X
  have htr : e.platform.stackTraces = false := (show e.platform.stackTraces = l.stackTraces by rw [X.admits.platform]).trans hl
  have Y := vx_rebase X (R' := { frames := R.frames, locals := R.locals, cells := 1, slots := 6 }) (Nat.le_refl _) (Nat.le_refl _) hRcells hRslots
  obtain ⟨s', hA⟩ : ∃ z, z = (T.setVm s.vm).setFrames (.invoking m args :: below) := ⟨_, rfl⟩
  rw [← hA] at Y
  have hvm : s'.vm = s.vm := by rw [hA]; rfl
  have hhp : s'.heap = H := by rw [hA]; exact hT
  have hW0 : s.WarmedH s'.vm := by rw [hvm]; exact State.WarmedH.refl s
  have hat' : ∀ w ∈ vx_atS own ic cls names, w.before args s' = true := fun w hw => vx_ot_at hW0 hvm.symm (hgood w (List.mem_cons_of_mem _ (List.mem_cons_of_mem _ hw))) (hat w hw)
  have hk' : (Cond.classLink own ik cls).before args s' = true := vx_ot_at hW0 hvm.symm (hgood _ List.mem_cons_self) hk
  have hini' : (Cond.initialized cls).before args s' = true := vx_ot_at hW0 hvm.symm (hgood _ (List.mem_cons_of_mem _ List.mem_cons_self)) hini
  have hU' : vx_Zq Bundle.tN "UNASSIGNED_STACK" Bundle.steD A s' s'.heap := by rw [hhp]; exact vx_Zq.moved hW0.alike (hU.kept hS.2.1)
  have hN' : vx_Zq Bundle.tN "SUPPRESSED_SENTINEL" Bundle.listD A s' s'.heap := by rw [hhp]; exact vx_Zq.moved hW0.alike (hN.kept hS.2.1)
  have h : ∀ w ∈ Bundle.ownAtoms own ic cls names, w.before args s' = true := vx_own hat' (vx_isRefq hU'.1) (vx_isRefq hN'.1) hU'.2.word hN'.2.word
  have hown' : s'.vm.findClass own = some m.cls := by rw [hvm]; exact hown
  have hins : (Cond.instantiable cls 6).before args s' = true := h _ (by simp [Bundle.ownAtoms])
  obtain ⟨vm₁, cX, kX, hfX, hkX, -, -, X₁, st1⟩ := Y.newCold hexec (own := own) (C := cls) (index := ik) (n := 6) hown' hk' hins hini'
    (g := F0 m pc ls rest) rfl (by rw [hb]; exact d0) (Nat.le_refl _) (Nat.le_refl _)
  generalize hT1 : (T.setVm vm₁).pushCell { cls := cX, slots := kX.instanceTypes.map defaultValue, vm := .none } = T1 at X₁ st1
  have hcat : (Value.ref T.heap.size).category = 1 := rfl
  have hcellA : T1.heap[T.heap.size]? = some (freshCell cX kX) := by rw [← hT1]; exact State.heap_pushCell_size _ _
  have d3' : decode c.code (pc + 3) = .ok (.dup, 1) := by rw [hb]; exact d3
  have d4' : decode c.code (pc + 4) = .ok (.ldc is, 2) := by rw [hb]; exact d4
  have hstr' : vk_R own is text sa s' := vk_R.warm hW0 hstr
  obtain ⟨U, hsteps, hrun, hend, hW, hsame, ce, hce, hO⟩ := X₁.ctorThrowS hexec htr (own := own) (cls := cls) (names := names) (ic := ic) hown' hcls hnames h (fun x hx => nomatch hx) hfX hkX hcellA (by rw [hhp, hT]; exact Nat.le_refl _) (msg := .ref sa) rfl
    (g := { method := m, pc := pc + 6, locals := ls, stack := .ref sa :: .ref T.heap.size :: .ref T.heap.size :: rest, locked := none }) rfl hsize rfl rfl (rest := rest) rfl
    (by rw [hb]; exact d6) (by rw [hb]; exact d9) hout hRframes (by simp only [List.map_cons, List.sum_cons, hcat]; omega) hlocks
  obtain ⟨f1, f2⟩ := vx_frame hsame
  rw [hhp] at f1 f2
  have hWs : s.WarmedH U.vm := State.WarmedH.trans hW0 hW
  have hcl : s.vm.findClass cls = some ce.cls := by
    have h9 := hO.cls
    rw [hvm] at h9
    exact h9
  have hall : s.sameButNew ({ U with vm := s.vm } : State) locs mc ms := by
    subst hA
    obtain ⟨e1, e2⟩ := hsame
    rw [State.setFrames_setFrames] at e1
    have h2 : (T.setVm s.vm).sameButNew ({ U with vm := s.vm } : State) [] (0 + 1) (0 + 6) := ⟨e1, e2⟩
    have h3 := X.same.trans h2
    rw [List.append_nil] at h3
    exact h3.mono hc hs
  refine ⟨U, ?_, .threw T.heap.size, hrun, hend, Or.inr ⟨T.heap.size, rfl, cls, ce, locs, hx U hWs.alike f1 (fun q hq => f2 q hq (fun z hz => nomatch hz)), hce, hO.vm, hcl, hWs, hall, hf⟩⟩
  refine st1 _ ?_
  show Steps p.tables e below (T1.setTop { method := m, pc := pc + 3, locals := ls, stack := .ref T.heap.size :: rest, locked := none }) _
  jvm_step X₁.here [X₁.here.top, hexec, d3', Value.category]
  exact X₁.ldcString hexec (own := own) (text := text) (index := is) (a := sa) hown' hstr'.1 hstr'.2
    (g := { method := m, pc := pc + 4, locals := ls, stack := .ref T.heap.size :: .ref T.heap.size :: rest, locked := none }) rfl d4' _ hsteps
/-- 'throw new E("text")', the text by a wide index -/
theorem vx_throwSW {cc : ByteArray} {pc : Nat} (hexec : p.tables.exec = Jvm.exec) (hb : c.code = cc) (hl : l.stackTraces = false) {own cls text : String} {names : List String} {ik is ic mc ms sa : Nat} {A : Nat → Prop}
    (hown : s.vm.findClass own = some m.cls) (hcls : Bundle.fit cls = true) (hnames : ∀ n ∈ names, Bundle.fit n = true)
    (hk : (Cond.classLink own ik cls).before args s = true) (hini : (Cond.initialized cls).before args s = true) (hstr : vk_R own is text sa s) (hat : ∀ w ∈ vx_atS own ic cls names, w.before args s = true)
    (hgood : ∀ w ∈ Cond.classLink own ik cls :: Cond.initialized cls :: vx_atS own ic cls names, vx_ot w = true)
    (hU : vx_Zq Bundle.tN "UNASSIGNED_STACK" Bundle.steD A s s.heap) (hN : vx_Zq Bundle.tN "SUPPRESSED_SENTINEL" Bundle.listD A s s.heap) (hS : va_S A s.heap H locs) (hsize : ls.size = c.maxLocals)
    (d0 : decode cc pc = .ok (.new ik, 3)) (d3 : decode cc (pc + 3) = .ok (.dup, 1)) (d4 : decode cc (pc + 4) = .ok (.ldc_w is, 3)) (d7 : decode cc (pc + 7) = .ok (.invokespecial ic, 3)) (d10 : decode cc (pc + 10) = .ok (.athrow, 1))
    (hout : ∀ x ∈ c.exceptionTable.toList, covers x (pc + 10) = false)
    (hRframes : names.length + 3 < R.frames) (hRlocals : (rest.map fun v => v.category).sum + (13 * (names.length + 1) + 43) ≤ R.locals) (hRcells : cells + 1 ≤ R.cells) (hRslots : slots + 6 ≤ R.slots) (hlocks : meth.locks = false)
    (hx : ∀ t : State, s.vm.Alike t.vm → H.size ≤ t.heap.size → (∀ q : Nat, q < H.size → t.heap[q]? = H[q]?) → XC cls s t)
    (hf : ∀ z ∈ locs, free z.base) (hc : cells + 1 ≤ mc) (hs : slots + 6 ≤ ms) :
    W p l e R s m args below meth c H locs cells slots (vx_MQ below Qc XC args s mc ms free) (F0 m pc ls rest) := by
  intro T hT X
  have htr : e.platform.stackTraces = false := (show e.platform.stackTraces = l.stackTraces by rw [X.admits.platform]).trans hl
  have Y := vx_rebase X (R' := { frames := R.frames, locals := R.locals, cells := 1, slots := 6 }) (Nat.le_refl _) (Nat.le_refl _) hRcells hRslots
  obtain ⟨s', hA⟩ : ∃ z, z = (T.setVm s.vm).setFrames (.invoking m args :: below) := ⟨_, rfl⟩
  rw [← hA] at Y
  have hvm : s'.vm = s.vm := by rw [hA]; rfl
  have hhp : s'.heap = H := by rw [hA]; exact hT
  have hW0 : s.WarmedH s'.vm := by rw [hvm]; exact State.WarmedH.refl s
  have hat' : ∀ w ∈ vx_atS own ic cls names, w.before args s' = true := fun w hw => vx_ot_at hW0 hvm.symm (hgood w (List.mem_cons_of_mem _ (List.mem_cons_of_mem _ hw))) (hat w hw)
  have hk' : (Cond.classLink own ik cls).before args s' = true := vx_ot_at hW0 hvm.symm (hgood _ List.mem_cons_self) hk
  have hini' : (Cond.initialized cls).before args s' = true := vx_ot_at hW0 hvm.symm (hgood _ (List.mem_cons_of_mem _ List.mem_cons_self)) hini
  have hU' : vx_Zq Bundle.tN "UNASSIGNED_STACK" Bundle.steD A s' s'.heap := by rw [hhp]; exact vx_Zq.moved hW0.alike (hU.kept hS.2.1)
  have hN' : vx_Zq Bundle.tN "SUPPRESSED_SENTINEL" Bundle.listD A s' s'.heap := by rw [hhp]; exact vx_Zq.moved hW0.alike (hN.kept hS.2.1)
  have h : ∀ w ∈ Bundle.ownAtoms own ic cls names, w.before args s' = true := vx_own hat' (vx_isRefq hU'.1) (vx_isRefq hN'.1) hU'.2.word hN'.2.word
  have hown' : s'.vm.findClass own = some m.cls := by rw [hvm]; exact hown
  have hins : (Cond.instantiable cls 6).before args s' = true := h _ (by simp [Bundle.ownAtoms])
  obtain ⟨vm₁, cX, kX, hfX, hkX, -, -, X₁, st1⟩ := Y.newCold hexec (own := own) (C := cls) (index := ik) (n := 6) hown' hk' hins hini'
    (g := F0 m pc ls rest) rfl (by rw [hb]; exact d0) (Nat.le_refl _) (Nat.le_refl _)
  generalize hT1 : (T.setVm vm₁).pushCell { cls := cX, slots := kX.instanceTypes.map defaultValue, vm := .none } = T1 at X₁ st1
  have hcat : (Value.ref T.heap.size).category = 1 := rfl
  have hcellA : T1.heap[T.heap.size]? = some (freshCell cX kX) := by rw [← hT1]; exact State.heap_pushCell_size _ _
  have d3' : decode c.code (pc + 3) = .ok (.dup, 1) := by rw [hb]; exact d3
  have d4' : decode c.code (pc + 4) = .ok (.ldc_w is, 3) := by rw [hb]; exact d4
  have hstr' : vk_R own is text sa s' := vk_R.warm hW0 hstr
  obtain ⟨U, hsteps, hrun, hend, hW, hsame, ce, hce, hO⟩ := X₁.ctorThrowS hexec htr (own := own) (cls := cls) (names := names) (ic := ic) hown' hcls hnames h (fun x hx => nomatch hx) hfX hkX hcellA (by rw [hhp, hT]; exact Nat.le_refl _) (msg := .ref sa) rfl
    (g := { method := m, pc := pc + 7, locals := ls, stack := .ref sa :: .ref T.heap.size :: .ref T.heap.size :: rest, locked := none }) rfl hsize rfl rfl (rest := rest) rfl
    (by rw [hb]; exact d7) (by rw [hb]; exact d10) hout hRframes (by simp only [List.map_cons, List.sum_cons, hcat]; omega) hlocks
  obtain ⟨f1, f2⟩ := vx_frame hsame
  rw [hhp] at f1 f2
  have hWs : s.WarmedH U.vm := State.WarmedH.trans hW0 hW
  have hcl : s.vm.findClass cls = some ce.cls := by
    have h9 := hO.cls
    rw [hvm] at h9
    exact h9
  have hall : s.sameButNew ({ U with vm := s.vm } : State) locs mc ms := by
    subst hA
    obtain ⟨e1, e2⟩ := hsame
    rw [State.setFrames_setFrames] at e1
    have h2 : (T.setVm s.vm).sameButNew ({ U with vm := s.vm } : State) [] (0 + 1) (0 + 6) := ⟨e1, e2⟩
    have h3 := X.same.trans h2
    rw [List.append_nil] at h3
    exact h3.mono hc hs
  refine ⟨U, ?_, .threw T.heap.size, hrun, hend, Or.inr ⟨T.heap.size, rfl, cls, ce, locs, hx U hWs.alike f1 (fun q hq => f2 q hq (fun z hz => nomatch hz)), hce, hO.vm, hcl, hWs, hall, hf⟩⟩
  refine st1 _ ?_
  show Steps p.tables e below (T1.setTop { method := m, pc := pc + 3, locals := ls, stack := .ref T.heap.size :: rest, locked := none }) _
  jvm_step X₁.here [X₁.here.top, hexec, d3', Value.category]
  exact X₁.ldcStringW hexec (own := own) (text := text) (index := is) (a := sa) hown' hstr'.1 hstr'.2
    (g := { method := m, pc := pc + 4, locals := ls, stack := .ref T.heap.size :: .ref T.heap.size :: rest, locked := none }) rfl d4' _ hsteps
end Ends
section Bodies
variable {l : Launch}
theorem vx_ofW {y : MethodName} {ws ws' : List Cond} {rm : Room} {Pc : Array Value → State → Prop} {Qc : Array Value → State → Outcome → State → Prop} {XC : String → State → State → Prop} {mc ms : Nat} {free : Addr → Prop} {cc : ByteArray} {maxL : Nat} {ret : Option FieldType}
    (hy : plainName y.cls = true) (hw : ws = Cond.code y cc maxL ret :: ws')
    (body : ∀ p e s m args below meth c s₁, BodyLoose p l y (headSpec ws rm) cc maxL ret e s m args below meth c s₁ → c.maxLocals = maxL → (∀ x ∈ c.exceptionTable.toList, False) → Pc args s →
      W p l e (headSpec ws rm).room s m args below meth c s.heap [] 0 0 (vx_MQ below Qc XC args s mc ms free) (entryFrame m args maxL)) : vx_Met l y ws rm Pc Qc XC mc ms free := by
  refine MetFree.of_bodyS (code := cc) (maxLocals := maxL) (ret := ret) hy ?_ ?_
  · intro args s m h hn
    obtain ⟨meth, c, h1, h2, h3, h4, h5, h6, -, -⟩ := Cond.code_spec hn (atoms_spec (ws := ws) h _ (by rw [hw]; exact List.mem_cons_self))
    exact ⟨meth, c, h1, h2, h3, h4, h5, h6⟩
  · intro p e s m args below meth c s₁ B hml hP _
    have hh0 : s₁.heap = s.heap := by rw [B.state]; rfl
    have ht : ∀ x ∈ c.exceptionTable.toList, False := by
      obtain ⟨meth9, c9, h1, h2, -, -, -, -, h7, -⟩ := Cond.code_spec B.named (atoms_spec (ws := ws) B.pre _ (by rw [hw]; exact List.mem_cons_self))
      cases Option.some.inj (h1.symm.trans B.method)
      cases Option.some.inj (h2.symm.trans (Stand.of_body B).code)
      intro x hx
      rw [Array.isEmpty_iff.mp h7] at hx
      cases hx
    obtain ⟨t, a1, o, b1, b2, b3⟩ := body p e s m args below meth c s₁ B hml ht hP s₁ hh0 (Stand.of_body B)
    exact ⟨t, o, a1, b1, b2, b3⟩
/-- the table of a body with handlers -/
theorem vx_table {p : Program} {x y : MethodName} {S : Spec} {cc bytes : ByteArray} {maxL maxL' : Nat} {ret ret' : Option FieldType} {e : Env} {s s₁ : State} {m : MethodId} {args : Array Value} {below : List Frame} {meth : Method} {c : Code} {hh : List (Nat × Nat × Nat × Nat)}
    (B : BodyLoose p l y S cc maxL ret e s m args below meth c s₁) (h : (Cond.codeWith y bytes maxL' ret' hh).before args s = true) : c.exceptionTable.toList = tableOf hh := by
  obtain ⟨m9, meth9, c9, hn9, h1, h2, -, -, h6, -⟩ := Cond.codeWith_spec h
  cases Option.some.inj (hn9.symm.trans B.named)
  cases Option.some.inj (h1.symm.trans B.method)
  cases Option.some.inj (h2.symm.trans (Stand.of_body B).code)
  rw [← h6, table_eq]
end Bodies
end VXA
/-! ===== END ===== -/
/-! ===== BEGIN a static call of a method with an exception table ===== -/
section VXS
variable {p : Program} {l : Launch} {e : Env} {R : Room} {s : State} {m : MethodId} {args : Array Value} {below : List Frame} {meth : Method} {c : Code} {T : State} {H : Heap} {locs : List Loc} {cells slots : Nat}
abbrev vx_CSW (R : Room) (s : State) (args : Array Value) (own : String) (index : Nat) (y : MethodName) (bytes : ByteArray) (maxL : Nat) (ret : Option FieldType) (hh : List (Nat × Nat × Nat × Nat)) (ws : List Cond) (rm : Room) (mc ms n : Nat) : Prop :=
  (rm.cells = mc ∧ rm.slots = ms ∧ rm.frames + 1 ≤ R.frames ∧ 8 + (maxL + 11) + rm.locals ≤ R.locals ∧ (∀ w ∈ ws, ∀ (a' : Array Value) (U : State), s.WarmedH U.vm → w.before a' U = true) ∧ Cond.codeWith y bytes maxL ret hh ∈ ws) ∧
  (Cond.codeWith y bytes maxL ret hh).before args s = true ∧ (Cond.initialized y.cls).before args s = true ∧ (y.cls ≠ "java/lang/invoke/MethodHandle" ∧ y.cls ≠ "java/lang/invoke/VarHandle") ∧
  (∀ sig, parseMethodDescriptor y.desc = some sig → n = sig.parameters.length) ∧ (Cond.methodLink own index y).before args s = true ∧ (Cond.static y).before args s = true
theorem vx_cwSW {own : String} {index maxL mc ms : Nat} {y : MethodName} {bytes : ByteArray} {ret : Option FieldType} {hh : List (Nat × Nat × Nat × Nat)} {Ts ws ws' : List Cond} {rm : Room} (n : Nat) (ht : ∀ w ∈ Ts, w.before args s = true) (hT : GoodIn Ts (va_wsS own index y ws)) (hw : ws = Cond.codeWith y bytes maxL ret hh :: ws') (hrc : rm.cells = mc) (hrs : rm.slots = ms)
    (hd : y.cls ≠ "java/lang/invoke/MethodHandle" ∧ y.cls ≠ "java/lang/invoke/VarHandle" ∧ (parseMethodDescriptor y.desc).map (fun d => d.parameters.length) = some n) (hR : rm.frames + 1 ≤ R.frames ∧ 8 + (maxL + 11) + rm.locals ≤ R.locals) :
    vx_CSW R s args own index y bytes maxL ret hh ws rm mc ms n := by
  have ok : ∀ w ∈ va_wsS own index y ws, w.before args s = true := fun w h => ht w (hT w h).1
  have hG : GoodIn Ts ws := fun w h => hT w (by unfold va_wsS; exact List.mem_append_right _ h)
  have hc : Cond.codeWith y bytes maxL ret hh ∈ ws := by rw [hw]; exact List.mem_cons_self
  refine ⟨⟨hrc, hrs, hR.1, hR.2, pay_in ht hG, hc⟩, ht _ (hG _ hc).1, ok _ (by simp [va_wsS]), ⟨hd.1, hd.2.1⟩, fun sig h => ?_, ok _ (by simp [va_wsS]), ok _ (by simp [va_wsS])⟩
  have h2 := hd.2.2
  rw [h] at h2
  exact (Option.some.inj h2).symm
theorem vx_callSW (X : Stand p l e R s m args below meth c T locs cells slots) (hexec : p.tables.exec = Jvm.exec) {own : String} {index : Nat} {y : MethodName} {bytes : ByteArray} {maxL : Nat} {ret : Option FieldType} {hh : List (Nat × Nat × Nat × Nat)}
    (hown : s.vm.findClass own = some m.cls) (hlink : (Cond.methodLink own index y).before args s = true) (hstat : (Cond.static y).before args s = true) (hinit : (Cond.initialized y.cls).before args s = true)
    (hcode : (Cond.codeWith y bytes maxL ret hh).before args s = true) (hy : y.cls ≠ "java/lang/invoke/MethodHandle" ∧ y.cls ≠ "java/lang/invoke/VarHandle")
    {W9 : Nat} {Pre : Pt → Array Value → Prop} {Post : Pt → Array Value → Option Value → Pt → Prop} (hK : Back l R p e below s args y 3 W9 Pre Post)
    {g : JFrame} (hg : g.method = m) (hsize : g.locals.size = c.maxLocals) {argsL rest : List Value} (hlen : ∀ sig, parseMethodDescriptor y.desc = some sig → argsL.length = sig.parameters.length)
    (hstack : g.stack = argsL.reverse ++ rest) (hW : 2 * g.monitorRoom + (rest.map fun v => v.category).sum ≤ W9) (hdg : decode c.code g.pc = .ok (.invokestatic index, 3))
    (hpre : ∀ vm₁, s.WarmedH vm₁ → Pre ⟨T.setVm vm₁, locs, cells, slots⟩ argsL.toArray) :
    ∃ (v : Option Value) (vm₁ : Vm) (B : Pt), s.WarmedH vm₁ ∧ Stand p l e R s m args below meth c B.U B.locs B.cells B.slots ∧ Post ⟨T.setVm vm₁, locs, cells, slots⟩ argsL.toArray v B ∧
      ∀ target, Steps p.tables e below (B.U.setTop { g with pc := g.pc + 3, stack := v.toList ++ rest }) target → Steps p.tables e below (T.setTop g) target := by
  obtain ⟨mk, methM, cM, hnamed, hmethM, -, -, -, -, -, -, hsigM⟩ := Cond.codeWith_spec hcode
  have hstatic : methM.isStatic = true := Cond.static_spec hnamed hmethM hstat
  obtain ⟨kP, hkP, -⟩ := className_of_methodNamed hnamed
  have hinitP : kP.init = .initialized := Cond.initialized_spec (findClass_of_methodNamed hnamed) hkP hinit
  obtain ⟨vm₁, X₁, hstep₁⟩ := X.invokestatic hexec hown hlink hnamed hmethM hstatic hkP hinitP hy (g := g) hg (argsL := argsL) (rest := rest) (hlen _ hsigM) hstack hdg
  obtain ⟨v, B, X', hpost, hsteps⟩ := hK m meth c ⟨T.setVm vm₁, locs, cells, slots⟩ { g with stack := rest } (.invokestatic index) mk argsL.toArray X₁ hg hsize hdg hW (X₁.named hnamed) (hpre vm₁ X₁.warmed)
  exact ⟨v, vm₁, B, X₁.warmed, X', hpost, fun target h => hstep₁ _ fun acts => by rw [doInvoke_state]; exact hsteps.trans h⟩
theorem vx_runSW {y : MethodName} {bytes cc : ByteArray} {maxL nL mc ms n index : Nat} {ret : Option FieldType} {hh : List (Nat × Nat × Nat × Nat)} {ws : List Cond} {rm : Room} {Pc : Array Value → State → Prop} {Qc : Array Value → State → Outcome → State → Prop} {free : Addr → Prop} {Ts : List Cond} {own : String} {As rest : List Value} {g : JFrame}
    (S : CallFix p m c cc nL s args Ts own) (hM : Met l y ws rm Pc Qc mc ms free) (cw : vx_CSW R s args own index y bytes maxL ret hh ws rm mc ms n) (hp : PreS s H Pc As)
    (hg : g.method = m) (hn : As.length = n) (hsize : g.locals.size = nL) (hstack : g.stack = As.reverse ++ rest) (hW : 2 * g.monitorRoom + (rest.map fun v => v.category).sum ≤ 8) (hdg : decode cc g.pc = .ok (.invokestatic index, 3)) (hf : cells + mc ≤ R.cells ∧ slots + ms ≤ R.slots) :
    va_Run p l e R s m args below meth c H locs cells slots mc ms g rest (Qc As.toArray) (free) := by
  obtain ⟨⟨hrc, hrs, hfr, hlo, hws, hcw⟩, hcode, hini, hy, hlen, hl, hstt⟩ := cw
  have hK : Back l R p e below s args y 3 8 (PreOf R mc ms Pc) (PostOf Qc mc ms free) := va_backW (hh := hh) (bytes := bytes) (maxL := maxL) (ret := ret) hM hp.1 hrc hrs hfr hlo hws hcw (fun a' U hW => word_at hW (Or.inl (by first | rfl | simp [Cond.onTables, Cond.keeps, Cond.steady])) hini)
  obtain ⟨hx, hb, hml, ho, -⟩ := S
  intro T hT X
  obtain ⟨v, vm₁, ⟨U', l2, c2, s2⟩, hW₁, X', ⟨g', mk, t, L, e1, e2, hq, h1, hL, h2, h3⟩, st⟩ := vx_callSW X hx (hh := hh) (bytes := bytes) (maxL := maxL) (ret := ret) ho hl hstt hini hcode hy hK hg (hsize.trans hml.symm) (argsL := As) (rest := rest) (fun sig h => hn.trans (hlen sig h)) hstack hW (by rw [hb]; exact hdg)
    (fun vm₁ hW₁ => ⟨hf.1, hf.2, hp.2 (T.setVm vm₁) hT hW₁⟩)
  dsimp only [Pt.U, Pt.locs, Pt.cells, Pt.slots] at X' e1 e2 h1 h2 h3 st
  subst h1; subst h2; subst h3
  exact ⟨v, (T.setVm vm₁).calling g' mk As.toArray, t, U', L, hT, X', hL, e1, e2, hq, st⟩
/-- not caught here, past rows that name other classes: it goes on to the caller -/
theorem vx_outP {p : Program} {l : Launch} {e : Env} {R : Room} {s : State} {m : MethodId} {args : Array Value} {below : List Frame} {meth : Method} {c : Code} {H : Heap} {locs : List Loc} {cells slots : Nat} {free : Addr → Prop} {ls : Array Slot} {rest : List Value} {Qc : Array Value → State → Outcome → State → Prop} {XC : String → State → State → Prop}
    {pc : Nat} {own E : String} {ce : Cell} {q : Addr} {mc ms : Nat} (hown : s.vm.findClass own = some m.cls) (hlocks : meth.locks = false)
    (hpass : ∀ z ∈ c.exceptionTable.toList, covers z pc = false ∨ (z.catchType ≠ 0 ∧ ∃ nm : String, (Cond.classLink own z.catchType nm).before args s = true ∧ va_Nc E nm s)) (hcell : H[q]? = some ce) (hv : ce.vm = .none) (hcl : s.vm.findClass E = some ce.cls)
    (hx : ∀ t : State, t.heap = H → s.vm.Alike t.vm → XC E s t) (hf : ∀ z ∈ locs, free z.base) (hc : cells ≤ mc) (hs : slots ≤ ms) :
    vx_W p l e R s m args below meth c H locs cells slots (vx_MQ below Qc XC args s mc ms free) (F0 m pc ls rest) q := by
  intro T hT X
  have hpl : e.platform.magicAccessors = ({} : Platform).magicAccessors := by rw [X.admits.platform]
  obtain ⟨vm', hW', X', st⟩ := X.outThrough hlocks q (g := F0 m pc ls rest) rfl rfl rfl (cell := ce) (by rw [hT]; exact hcell) (by rw [hv]; rfl)
    (by obtain ⟨k9, h9, -⟩ := Vm.findClass_spec hcl; exact ⟨k9, h9⟩) (fun z hz => by
      rcases hpass z hz with h | ⟨hz0, nm, hl1, hn1⟩
      · exact Or.inl h
      · obtain ⟨c6, hc6, hcl6⟩ := Cond.classLink_spec hown hl1 e.platform hpl
        obtain ⟨a8, b8, h1, h2, h3⟩ := hn1
        cases Option.some.inj (h1.symm.trans hcl)
        cases Option.some.inj (h2.symm.trans hc6)
        exact Or.inr ⟨hz0, _, hcl6, h3⟩)
  obtain ⟨g₀, hfr⟩ := X'.frames_eq
  have hcell9 : ((T.setVm vm').setFrames (.throwing q :: below)).heap[q]? = some ce := by
    show T.heap[q]? = some ce
    rw [hT]; exact hcell
  have hend : Ended ((T.setVm vm').setFrames (.throwing q :: below)) below (.threw q) := State.frames_setFrames _ (State.cur_lt_of_frames hfr)
  refine ⟨(T.setVm vm').setFrames (.throwing q :: below), ?_, .threw q, X'.here.running, hend, Or.inr ⟨q, rfl, E, ce, locs, hx _ hT (X'.ends _).1.alike, hcell9, hv, hcl, (X'.ends _).1, (X'.ends _).2.mono hc hs, hf⟩⟩
  rw [X.pushThrowing_eq]
  exact st
/-- a thing of a world lies in the heap -/
theorem vx_lt {D : va_G} {cl : List vw_C} {ws : va_W} {H1 : Heap} (h : va_P D cl ws H1) {k : Nat} {q : Nat × va_E} (hk : ws[k]? = some q) : q.1 < H1.size := (h k q hk).lt
end VXS
/-! ===== END ===== -/
/-! ===== BEGIN methods with a table of their own: called by a name, returning or throwing ===== -/
section VXH
/-! vx_backW, vx_callVX, vx_callSX, vx_callVW, vx_runVW, vx_runVX, vx_runSX, vx_ofWH follow the same proofs as their sisters above (Free/Laws.lean, Shelf42/LK1.lean); vx_outP calls Shelf42/NT130.lean (outThrough). -/
section
variable {l : Launch} {R : Room} {p : Program} {e : Env} {below : List Frame} {s : State} {sargs : Array Value} {y : MethodName} {len W9 : Nat}
theorem vx_backW {ws : List Cond} {rm : Room} {Pc : Array Value → State → Prop} {Qc : Array Value → State → Outcome → State → Prop} {XC : String → State → State → Prop} {mc ms : Nat} {free : Addr → Prop} {bytes : ByteArray} {maxL : Nat} {ret : Option FieldType} {hh : List (Nat × Nat × Nat × Nat)}
    (hM : vx_Met l y ws rm Pc Qc XC mc ms free) (hblind : FrameBlind Pc) (hrc : rm.cells = mc) (hrs : rm.slots = ms)
    (hframes : rm.frames + 1 ≤ R.frames) (hlocals : W9 + (maxL + 11) + rm.locals ≤ R.locals)
    (hws : ∀ w ∈ ws, ∀ a' U, s.WarmedH U.vm → w.before a' U = true) (hcode : Cond.codeWith y bytes maxL ret hh ∈ ws) (hinit : ∀ a' U, s.WarmedH U.vm → (Cond.initialized y.cls).before a' U = true) :
    vx_Back l R p e below s sargs y len W9 (PreOf R mc ms Pc) (PostOf Qc mc ms free) (vx_Post XC mc ms free) := by
  intro m meth c A g ig mk a X hg hsize hdg hW hn hp
  have h1 : (headSpec ws rm).pre.before a A.U = true := atoms_intro fun w hw => hws w hw _ _ X.warmed
  have h2 : (Cond.codeWith y bytes maxL ret hh).before a A.U = true := hws _ hcode _ _ X.warmed
  have h3 : (Cond.initialized y.cls).before a A.U = true := hinit _ _ X.warmed
  have h4 : A.cells + (headSpec ws rm).room.cells ≤ R.cells := by rw [show (headSpec ws rm).room.cells = mc from hrc]; exact hp.1
  have h5 : A.slots + (headSpec ws rm).room.slots ≤ R.slots := by rw [show (headSpec ws rm).room.slots = ms from hrs]; exact hp.2.1
  have hPc : Pc a (A.U.calling g mk a) := hblind _ _ _ _ hp.2.2
  obtain ⟨U, Ls, c0, s0⟩ := A
  dsimp only [Pt.U, Pt.locs, Pt.cells, Pt.slots] at h1 h2 h3 h4 h5 X hn hPc ⊢
  obtain ⟨m9, methY, cY, hn9, hmY, hcY, -, hlY, -⟩ := Cond.codeWith_spec h2
  cases Option.some.inj (hn9.symm.trans hn)
  obtain ⟨kY, hkY, -⟩ := className_of_methodNamed hn
  have hinitY : kY.init = .initialized := Cond.initialized_spec (findClass_of_methodNamed hn) hkY h3
  have h : At U g.method c below := by rw [hg]; exact X.here
  have hlocals9 : W9 + (maxL + 11) + (headSpec ws rm).room.locals ≤ R.locals := hlocals
  have happ : (headSpec ws rm).appliesLoose y e.platform (U.calling g mk a) = true :=
    Spec.appliesLoose_calling (g := g) h hdg hn hkY hinitY
      (X.room_calling (g := g) (R' := (headSpec ws rm).room) hsize hmY hcY hframes (by rw [hlY]; omega) h4 h5) h1
  obtain ⟨mid, hmid⟩ := h.above
  have hfr : (U.setTop g).frames = (.java g :: mid) ++ below := by rw [State.frames_setTop' g h.top, hmid]; rfl
  obtain ⟨o, s₂, hsteps, -, hend, hq⟩ := Steps.callFree hM p X.admits X.cas X.clock (acts := []) hfr happ hPc trivial
  have hq' : vx_Q Qc XC mc ms free a (U.calling g mk a) o s₂ := hq
  rw [State.frames_setTop' g h.top] at hend
  obtain ⟨g₀, hg0⟩ := Option.isSome_iff_exists.mp h.top
  obtain ⟨r, hr⟩ := State.topJava?_eq_some.mp hg0
  have hr' : (({ U with heap := s₂.heap, slotsUsed := s₂.slotsUsed } : State).setVm s₂.vm).frames = .java g₀ :: r := hr
  rcases hq' with ⟨hqc, L, hfe, hL⟩ | ⟨q, rfl, E, ce, L, hx, hce, hcv, hcl, hW₂, hsm, hL⟩
  · obtain ⟨⟨v, rfl⟩, hW₂, e2, q2, q3, q4, q5, q6⟩ := id hfe
    have e3 : s₂ = ({ (U.calling g mk a).setFrames s₂.frames with heap := s₂.heap, slotsUsed := s₂.slotsUsed } : State).setVm s₂.vm := by
      have : s₂ = ({ s₂ with vm := (U.calling g mk a).vm } : State).setVm s₂.vm := rfl
      rw [e2] at this
      exact this
    obtain ⟨c₂, i₂, len₂, hc₂, hd₂, hf₂⟩ := hend
    have hW' : U.WarmedH s₂.vm := hW₂
    have hcc : c₂ = c := by
      have h1 : s₂.code? g.method = U.code? g.method := by
        rw [State.code?_eq, State.code?_eq, hW'.alike.method?]
      exact Option.some.inj (hc₂.symm.trans (h1.trans h.code))
    subst hcc
    have hlen : len₂ = len := by rw [hdg] at hd₂; cases hd₂; rfl
    subst hlen
    have hs₂ : s₂ = (({ U with heap := s₂.heap, slotsUsed := s₂.slotsUsed } : State).setVm s₂.vm).setTop { g with pc := g.pc + len₂, stack := v.toList ++ g.stack } := by
      refine e3.trans ?_
      rw [hf₂, State.calling_eq h.top, State.setFrames_setFrames, State.setTop_of_frames _ hr', hr]
      rfl
    have hsame : U.sameButNew ({ U with heap := s₂.heap, slotsUsed := s₂.slotsUsed } : State) L mc ms := by
      refine ⟨?_, q2, q3, q4, q5, q6⟩
      obtain ⟨t, ht, -⟩ := State.frames_cons hr
      show ({ U with heap := s₂.heap, slotsUsed := s₂.slotsUsed } : State) = { U.setFrames U.frames with heap := s₂.heap, slotsUsed := s₂.slotsUsed }
      rw [State.setFrames_self ht]
    subst hg
    refine Or.inl ⟨v, ⟨(({ U with heap := s₂.heap, slotsUsed := s₂.slotsUsed } : State).setVm s₂.vm), Ls ++ L, c0 + mc, s0 + ms⟩,
      ⟨X.admits, X.cas, X.clock, X.frames, X.room, X.hears, X.method, X.code, (X.here.setHeapUsed s₂.heap s₂.slotsUsed).setVm hW'.alike, X.tail, State.WarmedH.trans X.warmed hW', X.limits, X.bytes, X.same.trans (hsame.setVm s.vm)⟩,
      ⟨g, mk, s₂, L, rfl, rfl, hqc, rfl, hL, rfl, rfl⟩, ?_⟩
    show Steps p.tables e below _ ((({ U with heap := s₂.heap, slotsUsed := s₂.slotsUsed } : State).setVm s₂.vm).setTop { g with pc := g.pc + len₂, stack := v.toList ++ g.stack })
    rw [← hs₂]
    exact hsteps
  · obtain ⟨e2, q2, q3, q4, q5, q6⟩ := id hsm
    have e3 : s₂ = ({ (U.calling g mk a).setFrames s₂.frames with heap := s₂.heap, slotsUsed := s₂.slotsUsed } : State).setVm s₂.vm := by
      have : s₂ = ({ s₂ with vm := (U.calling g mk a).vm } : State).setVm s₂.vm := rfl
      rw [e2] at this
      exact this
    have hf₂ : s₂.frames = .throwing q :: .java g :: U.frames.tail := hend
    have hW' : U.WarmedH s₂.vm := hW₂
    have hs₂ : s₂ = ((({ U with heap := s₂.heap, slotsUsed := s₂.slotsUsed } : State).setVm s₂.vm).setTop g).pushFrame (.throwing q) := by
      refine e3.trans ?_
      rw [hf₂, State.calling_eq h.top, State.setFrames_setFrames, State.pushFrame, State.frames_setTop _ hr', State.setTop_of_frames _ hr', State.setFrames_setFrames, hr]
      rfl
    have hsame : U.sameButNew ({ U with heap := s₂.heap, slotsUsed := s₂.slotsUsed } : State) L mc ms := by
      refine ⟨?_, q2, q3, q4, q5, q6⟩
      obtain ⟨t, ht, -⟩ := State.frames_cons hr
      show ({ U with heap := s₂.heap, slotsUsed := s₂.slotsUsed } : State) = { U.setFrames U.frames with heap := s₂.heap, slotsUsed := s₂.slotsUsed }
      rw [State.setFrames_self ht]
    subst hg
    refine Or.inr ⟨q, ⟨(({ U with heap := s₂.heap, slotsUsed := s₂.slotsUsed } : State).setVm s₂.vm), Ls ++ L, c0 + mc, s0 + ms⟩,
      ⟨X.admits, X.cas, X.clock, X.frames, X.room, X.hears, X.method, X.code, (X.here.setHeapUsed s₂.heap s₂.slotsUsed).setVm hW'.alike, X.tail, State.WarmedH.trans X.warmed hW', X.limits, X.bytes, X.same.trans (hsame.setVm s.vm)⟩,
      ⟨g, mk, s₂, L, E, ce, rfl, rfl, hx, hce, hcv, hcl, rfl, hL, rfl, rfl⟩, ?_⟩
    show Steps p.tables e below _ (((({ U with heap := s₂.heap, slotsUsed := s₂.slotsUsed } : State).setVm s₂.vm).setTop g).pushFrame (.throwing q))
    rw [← hs₂]
    exact hsteps
end
variable {p : Program} {l : Launch} {e : Env} {R : Room} {s : State} {m : MethodId} {args : Array Value} {below : List Frame} {meth : Method} {c : Code} {T : State} {H : Heap} {locs : List Loc} {cells slots : Nat}
theorem vx_callVX (X : Stand p l e R s m args below meth c T locs cells slots) (hexec : p.tables.exec = Jvm.exec) {own C : String} {index : Nat} {y : MethodName} {bytes : ByteArray} {maxL : Nat} {ret : Option FieldType} {hh : List (Nat × Nat × Nat × Nat)}
    (hown : s.vm.findClass own = some m.cls) (hlink : (Cond.methodLink own index y).before args s = true) (hinst : (Cond.instanceMethod y).before args s = true) (hsel : (Cond.selects C y y).before args s = true)
    (hcode : (Cond.codeWith y bytes maxL ret hh).before args s = true) (hy : y.cls ≠ "java/lang/invoke/MethodHandle" ∧ y.cls ≠ "java/lang/invoke/VarHandle")
    {W9 : Nat} {Pre : Pt → Array Value → Prop} {Post : Pt → Array Value → Option Value → Pt → Prop} {PostX : Pt → Array Value → Addr → Pt → Prop} (hK : vx_Back l R p e below s args y 3 W9 Pre Post PostX)
    {b : Addr} {cellB : Cell} (hcell : T.heap[b]? = some cellB) (hobj : cellB.vm.isStatics = false) (hcls : s.vm.findClass C = some cellB.cls)
    {g : JFrame} (hg : g.method = m) (hsize : g.locals.size = c.maxLocals) {argsL rest : List Value} (hlen : ∀ sig, parseMethodDescriptor y.desc = some sig → argsL.length = sig.parameters.length)
    (hstack : g.stack = argsL.reverse ++ .ref b :: rest) (hW : 2 * g.monitorRoom + (rest.map fun v => v.category).sum ≤ W9) (hdg : decode c.code g.pc = .ok (.invokevirtual index, 3))
    (hpre : ∀ vm₁, s.WarmedH vm₁ → Pre ⟨T.setVm vm₁, locs, cells, slots⟩ (Value.ref b :: argsL).toArray) :
    (∃ (v : Option Value) (vm₁ : Vm) (B : Pt), s.WarmedH vm₁ ∧ Stand p l e R s m args below meth c B.U B.locs B.cells B.slots ∧ Post ⟨T.setVm vm₁, locs, cells, slots⟩ (Value.ref b :: argsL).toArray v B ∧
      ∀ target, Steps p.tables e below (B.U.setTop { g with pc := g.pc + 3, stack := v.toList ++ rest }) target → Steps p.tables e below (T.setTop g) target) ∨
    (∃ (q : Addr) (vm₁ : Vm) (B : Pt), s.WarmedH vm₁ ∧ Stand p l e R s m args below meth c B.U B.locs B.cells B.slots ∧ PostX ⟨T.setVm vm₁, locs, cells, slots⟩ (Value.ref b :: argsL).toArray q B ∧
      Steps p.tables e below (T.setTop g) ((B.U.setTop { g with stack := rest }).pushFrame (.throwing q))) := by
  obtain ⟨mk, methM, hnamed, hmethM, hstM, habM⟩ := Cond.instanceMethod_spec hinst
  obtain ⟨m8, methM', cM, hn8, hmethM', -, -, -, -, -, -, hsigM⟩ := Cond.codeWith_spec hcode
  cases Option.some.inj (hn8.symm.trans hnamed)
  cases hmethM.symm.trans hmethM'
  obtain ⟨c2, r2, m2, q1, q2, q3, q4, kP, hkP, hkPi⟩ := Cond.selects_spec hsel
  cases hcls.symm.trans q1
  cases (State.methodFound?_of_named hnamed hy).symm.trans q2
  cases hnamed.symm.trans q3
  have hselP : selectMethod e.platform s.vm cellB.cls mk = .method mk := by rw [Launch.admits_selectMethod X.admits]; exact q4
  obtain ⟨vm₁, X₁, hstep₁⟩ := X.invokevirtual hexec hown hlink hnamed hmethM hstM hkP hkPi hy (a := b) (cell := cellB) hcell
    (fun z h => by rw [h] at hobj; cases hobj) hselP hmethM habM hkP hkPi (g := g) hg (argsL := argsL) (rest := rest) (hlen _ hsigM) hstack hdg
  rcases hK m meth c ⟨T.setVm vm₁, locs, cells, slots⟩ { g with stack := rest } (.invokevirtual index) mk (Value.ref b :: argsL).toArray X₁ hg hsize hdg hW (X₁.named hnamed) (hpre vm₁ X₁.warmed) with ⟨v, B, X', hpost, hsteps⟩ | ⟨q, B, X', hpost, hsteps⟩
  · exact Or.inl ⟨v, vm₁, B, X₁.warmed, X', hpost, fun target h => hstep₁ _ fun acts => by rw [doInvoke_state]; exact hsteps.trans h⟩
  · exact Or.inr ⟨q, vm₁, B, X₁.warmed, X', hpost, hstep₁ _ fun acts => by rw [doInvoke_state]; exact hsteps⟩
theorem vx_callSX (X : Stand p l e R s m args below meth c T locs cells slots) (hexec : p.tables.exec = Jvm.exec) {own : String} {index : Nat} {y : MethodName} {bytes : ByteArray} {maxL : Nat} {ret : Option FieldType} {hh : List (Nat × Nat × Nat × Nat)}
    (hown : s.vm.findClass own = some m.cls) (hlink : (Cond.methodLink own index y).before args s = true) (hstat : (Cond.static y).before args s = true) (hinit : (Cond.initialized y.cls).before args s = true)
    (hcode : (Cond.codeWith y bytes maxL ret hh).before args s = true) (hy : y.cls ≠ "java/lang/invoke/MethodHandle" ∧ y.cls ≠ "java/lang/invoke/VarHandle")
    {W9 : Nat} {Pre : Pt → Array Value → Prop} {Post : Pt → Array Value → Option Value → Pt → Prop} {PostX : Pt → Array Value → Addr → Pt → Prop} (hK : vx_Back l R p e below s args y 3 W9 Pre Post PostX)
    {g : JFrame} (hg : g.method = m) (hsize : g.locals.size = c.maxLocals) {argsL rest : List Value} (hlen : ∀ sig, parseMethodDescriptor y.desc = some sig → argsL.length = sig.parameters.length)
    (hstack : g.stack = argsL.reverse ++ rest) (hW : 2 * g.monitorRoom + (rest.map fun v => v.category).sum ≤ W9) (hdg : decode c.code g.pc = .ok (.invokestatic index, 3))
    (hpre : ∀ vm₁, s.WarmedH vm₁ → Pre ⟨T.setVm vm₁, locs, cells, slots⟩ argsL.toArray) :
    (∃ (v : Option Value) (vm₁ : Vm) (B : Pt), s.WarmedH vm₁ ∧ Stand p l e R s m args below meth c B.U B.locs B.cells B.slots ∧ Post ⟨T.setVm vm₁, locs, cells, slots⟩ argsL.toArray v B ∧
      ∀ target, Steps p.tables e below (B.U.setTop { g with pc := g.pc + 3, stack := v.toList ++ rest }) target → Steps p.tables e below (T.setTop g) target) ∨
    (∃ (q : Addr) (vm₁ : Vm) (B : Pt), s.WarmedH vm₁ ∧ Stand p l e R s m args below meth c B.U B.locs B.cells B.slots ∧ PostX ⟨T.setVm vm₁, locs, cells, slots⟩ argsL.toArray q B ∧
      Steps p.tables e below (T.setTop g) ((B.U.setTop { g with stack := rest }).pushFrame (.throwing q))) := by
  obtain ⟨mk, methM, cM, hnamed, hmethM, -, -, -, -, -, -, hsigM⟩ := Cond.codeWith_spec hcode
  have hstatic : methM.isStatic = true := Cond.static_spec hnamed hmethM hstat
  obtain ⟨kP, hkP, -⟩ := className_of_methodNamed hnamed
  have hinitP : kP.init = .initialized := Cond.initialized_spec (findClass_of_methodNamed hnamed) hkP hinit
  obtain ⟨vm₁, X₁, hstep₁⟩ := X.invokestatic hexec hown hlink hnamed hmethM hstatic hkP hinitP hy (g := g) hg (argsL := argsL) (rest := rest) (hlen _ hsigM) hstack hdg
  rcases hK m meth c ⟨T.setVm vm₁, locs, cells, slots⟩ { g with stack := rest } (.invokestatic index) mk argsL.toArray X₁ hg hsize hdg hW (X₁.named hnamed) (hpre vm₁ X₁.warmed) with ⟨v, B, X', hpost, hsteps⟩ | ⟨q, B, X', hpost, hsteps⟩
  · exact Or.inl ⟨v, vm₁, B, X₁.warmed, X', hpost, fun target h => hstep₁ _ fun acts => by rw [doInvoke_state]; exact hsteps.trans h⟩
  · exact Or.inr ⟨q, vm₁, B, X₁.warmed, X', hpost, hstep₁ _ fun acts => by rw [doInvoke_state]; exact hsteps⟩
theorem vx_callVW (X : Stand p l e R s m args below meth c T locs cells slots) (hexec : p.tables.exec = Jvm.exec) {own C : String} {index : Nat} {y : MethodName} {bytes : ByteArray} {maxL : Nat} {ret : Option FieldType} {hh : List (Nat × Nat × Nat × Nat)}
    (hown : s.vm.findClass own = some m.cls) (hlink : (Cond.methodLink own index y).before args s = true) (hinst : (Cond.instanceMethod y).before args s = true) (hsel : (Cond.selects C y y).before args s = true)
    (hcode : (Cond.codeWith y bytes maxL ret hh).before args s = true) (hy : y.cls ≠ "java/lang/invoke/MethodHandle" ∧ y.cls ≠ "java/lang/invoke/VarHandle")
    {W9 : Nat} {Pre : Pt → Array Value → Prop} {Post : Pt → Array Value → Option Value → Pt → Prop} (hK : Back l R p e below s args y 3 W9 Pre Post)
    {b : Addr} {cellB : Cell} (hcell : T.heap[b]? = some cellB) (hobj : cellB.vm.isStatics = false) (hcls : s.vm.findClass C = some cellB.cls)
    {g : JFrame} (hg : g.method = m) (hsize : g.locals.size = c.maxLocals) {argsL rest : List Value} (hlen : ∀ sig, parseMethodDescriptor y.desc = some sig → argsL.length = sig.parameters.length)
    (hstack : g.stack = argsL.reverse ++ .ref b :: rest) (hW : 2 * g.monitorRoom + (rest.map fun v => v.category).sum ≤ W9) (hdg : decode c.code g.pc = .ok (.invokevirtual index, 3))
    (hpre : ∀ vm₁, s.WarmedH vm₁ → Pre ⟨T.setVm vm₁, locs, cells, slots⟩ (Value.ref b :: argsL).toArray) :
    ∃ (v : Option Value) (vm₁ : Vm) (B : Pt), s.WarmedH vm₁ ∧ Stand p l e R s m args below meth c B.U B.locs B.cells B.slots ∧ Post ⟨T.setVm vm₁, locs, cells, slots⟩ (Value.ref b :: argsL).toArray v B ∧
      ∀ target, Steps p.tables e below (B.U.setTop { g with pc := g.pc + 3, stack := v.toList ++ rest }) target → Steps p.tables e below (T.setTop g) target := by
  obtain ⟨mk, methM, hnamed, hmethM, hstM, habM⟩ := Cond.instanceMethod_spec hinst
  obtain ⟨m8, methM', cM, hn8, hmethM', -, -, -, -, -, -, hsigM⟩ := Cond.codeWith_spec hcode
  cases Option.some.inj (hn8.symm.trans hnamed)
  cases hmethM.symm.trans hmethM'
  obtain ⟨c2, r2, m2, q1, q2, q3, q4, kP, hkP, hkPi⟩ := Cond.selects_spec hsel
  cases hcls.symm.trans q1
  cases (State.methodFound?_of_named hnamed hy).symm.trans q2
  cases hnamed.symm.trans q3
  have hselP : selectMethod e.platform s.vm cellB.cls mk = .method mk := by rw [Launch.admits_selectMethod X.admits]; exact q4
  obtain ⟨vm₁, X₁, hstep₁⟩ := X.invokevirtual hexec hown hlink hnamed hmethM hstM hkP hkPi hy (a := b) (cell := cellB) hcell
    (fun z h => by rw [h] at hobj; cases hobj) hselP hmethM habM hkP hkPi (g := g) hg (argsL := argsL) (rest := rest) (hlen _ hsigM) hstack hdg
  obtain ⟨v, B, X', hpost, hsteps⟩ := hK m meth c ⟨T.setVm vm₁, locs, cells, slots⟩ { g with stack := rest } (.invokevirtual index) mk (Value.ref b :: argsL).toArray X₁ hg hsize hdg hW (X₁.named hnamed) (hpre vm₁ X₁.warmed)
  exact ⟨v, vm₁, B, X₁.warmed, X', hpost, fun target h => hstep₁ _ fun acts => by rw [doInvoke_state]; exact hsteps.trans h⟩
abbrev vx_CVW (R : Room) (s : State) (args : Array Value) (own C : String) (index : Nat) (y : MethodName) (bytes : ByteArray) (maxL : Nat) (ret : Option FieldType) (hh : List (Nat × Nat × Nat × Nat)) (ws : List Cond) (rm : Room) (mc ms n : Nat) : Prop :=
  (rm.cells = mc ∧ rm.slots = ms ∧ rm.frames + 1 ≤ R.frames ∧ 8 + (maxL + 11) + rm.locals ≤ R.locals ∧ (∀ w ∈ ws, ∀ (a' : Array Value) (U : State), s.WarmedH U.vm → w.before a' U = true) ∧ Cond.codeWith y bytes maxL ret hh ∈ ws) ∧
  (Cond.codeWith y bytes maxL ret hh).before args s = true ∧ (Cond.initialized y.cls).before args s = true ∧ (y.cls ≠ "java/lang/invoke/MethodHandle" ∧ y.cls ≠ "java/lang/invoke/VarHandle") ∧
  (∀ sig, parseMethodDescriptor y.desc = some sig → n = sig.parameters.length) ∧ (Cond.methodLink own index y).before args s = true ∧ (Cond.instanceMethod y).before args s = true ∧ (Cond.selects C y y).before args s = true
theorem vx_cwVW {own C : String} {index maxL mc ms : Nat} {y : MethodName} {bytes : ByteArray} {ret : Option FieldType} {hh : List (Nat × Nat × Nat × Nat)} {Ts ws ws' : List Cond} {rm : Room} (n : Nat) (ht : ∀ w ∈ Ts, w.before args s = true) (hT : GoodIn Ts (wsV own index C y ws)) (hw : ws = Cond.codeWith y bytes maxL ret hh :: ws') (hrc : rm.cells = mc) (hrs : rm.slots = ms)
    (hd : y.cls = C ∧ y.cls ≠ "java/lang/invoke/MethodHandle" ∧ y.cls ≠ "java/lang/invoke/VarHandle" ∧ (parseMethodDescriptor y.desc).map (fun d => d.parameters.length) = some n) (hR : rm.frames + 1 ≤ R.frames ∧ 8 + (maxL + 11) + rm.locals ≤ R.locals) :
    vx_CVW R s args own C index y bytes maxL ret hh ws rm mc ms n := by
  obtain ⟨hC, hd⟩ := hd
  subst hC
  have ok : ∀ w ∈ wsV own index y.cls y ws, w.before args s = true := fun w h => ht w (hT w h).1
  have hG : GoodIn Ts ws := fun w h => hT w (by unfold wsV; exact List.mem_append_right _ h)
  have hc : Cond.codeWith y bytes maxL ret hh ∈ ws := by rw [hw]; exact List.mem_cons_self
  refine ⟨⟨hrc, hrs, hR.1, hR.2, pay_in ht hG, hc⟩, ht _ (hG _ hc).1, ok _ (by simp [wsV]), ⟨hd.1, hd.2.1⟩, fun sig h => ?_, ok _ (by simp [wsV]), ok _ (by simp [wsV]), ok _ (by simp [wsV])⟩
  have h2 := hd.2.2
  rw [h] at h2
  exact (Option.some.inj h2).symm
theorem vx_runVW {y : MethodName} {bytes cc : ByteArray} {maxL nL mc ms n index : Nat} {ret : Option FieldType} {hh : List (Nat × Nat × Nat × Nat)} {ws : List Cond} {rm : Room} {Pc : Array Value → State → Prop} {Qc : Array Value → State → Outcome → State → Prop} {free : Addr → Prop} {Ts : List Cond} {own C : String} {b : Addr} {As rest : List Value} {g : JFrame}
    (S : CallFix p m c cc nL s args Ts own) (hM : Met l y ws rm Pc Qc mc ms free) (cw : vx_CVW R s args own C index y bytes maxL ret hh ws rm mc ms n) (hp : PreV s H C b Pc As)
    (hg : g.method = m) (hn : As.length = n) (hsize : g.locals.size = nL) (hstack : g.stack = As.reverse ++ .ref b :: rest) (hW : 2 * g.monitorRoom + (rest.map fun v => v.category).sum ≤ 8) (hdg : decode cc g.pc = .ok (.invokevirtual index, 3)) (hf : cells + mc ≤ R.cells ∧ slots + ms ≤ R.slots) :
    va_Run p l e R s m args below meth c H locs cells slots mc ms g rest (Qc (Value.ref b :: As).toArray) free := by
  obtain ⟨⟨hrc, hrs, hfr, hlo, hws, hcw⟩, hcode, hini, hy, hlen, hl, hin, hse⟩ := cw
  have hK : Back l R p e below s args y 3 8 (PreOf R mc ms Pc) (PostOf Qc mc ms free) := va_backW (hh := hh) (bytes := bytes) (maxL := maxL) (ret := ret) hM hp.1 hrc hrs hfr hlo hws hcw (fun a' U hW => word_at hW (Or.inl (by first | rfl | simp [Cond.onTables, Cond.keeps, Cond.steady])) hini)
  obtain ⟨hx, hb, hml, ho, -⟩ := S
  obtain ⟨-, ⟨cellB, hcB, hoB, hclB⟩, hPc⟩ := hp
  intro T hT X
  obtain ⟨v, vm₁, ⟨U', l2, c2, s2⟩, hW₁, X', ⟨g', mk, t, L, e1, e2, hq, h1, hL, h2, h3⟩, st⟩ := vx_callVW X hx (C := C) (hh := hh) (bytes := bytes) (maxL := maxL) (ret := ret) ho hl hin hse hcode hy hK (by rw [hT]; exact hcB) hoB hclB hg (hsize.trans hml.symm) (argsL := As) (rest := rest) (fun sig h => hn.trans (hlen sig h)) hstack hW (by rw [hb]; exact hdg)
    (fun vm₁ hW₁ => ⟨hf.1, hf.2, hPc (T.setVm vm₁) hT hW₁⟩)
  dsimp only [Pt.U, Pt.locs, Pt.cells, Pt.slots] at X' e1 e2 h1 h2 h3 st
  subst h1; subst h2; subst h3
  exact ⟨v, (T.setVm vm₁).calling g' mk (Value.ref b :: As).toArray, t, U', L, hT, X', hL, e1, e2, hq, st⟩
section
variable {y : MethodName} {bytes cc : ByteArray} {maxL nL mc ms n index : Nat} {ret : Option FieldType} {ws : List Cond} {rm : Room} {Pc : Array Value → State → Prop} {Qc : Array Value → State → Outcome → State → Prop} {XC : String → State → State → Prop} {free : Addr → Prop} {Ts : List Cond} {own C : String} {b : Addr} {As rest : List Value} {g : JFrame}
theorem vx_runVX {hh : List (Nat × Nat × Nat × Nat)} (S : CallFix p m c cc nL s args Ts own) (hM : vx_Met l y ws rm Pc Qc XC mc ms free) (cw : vx_CVW R s args own C index y bytes maxL ret hh ws rm mc ms n) (hp : PreV s H C b Pc As)
    (hg : g.method = m) (hn : As.length = n) (hsize : g.locals.size = nL) (hstack : g.stack = As.reverse ++ .ref b :: rest) (hW : 2 * g.monitorRoom + (rest.map fun v => v.category).sum ≤ 8) (hdg : decode cc g.pc = .ok (.invokevirtual index, 3)) (hf : cells + mc ≤ R.cells ∧ slots + ms ≤ R.slots) :
    vx_Run p l e R s m args below meth c H locs cells slots mc ms g rest (Qc (Value.ref b :: As).toArray) XC free := by
  obtain ⟨⟨hrc, hrs, hfr, hlo, hws, hcw⟩, hcode, hini, hy, hlen, hl, hin, hse⟩ := cw
  have hK : vx_Back l R p e below s args y 3 8 (PreOf R mc ms Pc) (PostOf Qc mc ms free) (vx_Post XC mc ms free) := vx_backW (hh := hh) (bytes := bytes) (maxL := maxL) (ret := ret) hM hp.1 hrc hrs hfr hlo hws hcw (fun a' U hW => word_at hW (Or.inl (by first | rfl | simp [Cond.onTables, Cond.keeps, Cond.steady])) hini)
  obtain ⟨hx, hb, hml, ho, -⟩ := S
  obtain ⟨-, ⟨cellB, hcB, hoB, hclB⟩, hPc⟩ := hp
  intro T hT X
  rcases vx_callVX X hx (C := C) (hh := hh) (bytes := bytes) (maxL := maxL) (ret := ret) ho hl hin hse hcode hy hK (by rw [hT]; exact hcB) hoB hclB hg (hsize.trans hml.symm) (argsL := As) (rest := rest) (fun sig h => hn.trans (hlen sig h)) hstack hW (by rw [hb]; exact hdg)
    (fun vm₁ hW₁ => ⟨hf.1, hf.2, hPc (T.setVm vm₁) hT hW₁⟩) with ⟨v, vm₁, ⟨U', l2, c2, s2⟩, hW₁, X', ⟨g', mk, t, L, e1, e2, hq, h1, hL, h2, h3⟩, st⟩ | ⟨q, vm₁, ⟨U', l2, c2, s2⟩, hW₁, X', ⟨g', mk, t, L, E, ce, e1, e2, hq, hce, hcv, hcl, h1, hL, h2, h3⟩, st⟩
  · dsimp only [Pt.U, Pt.locs, Pt.cells, Pt.slots] at X' e1 e2 h1 h2 h3 st
    subst h1; subst h2; subst h3
    exact Or.inl ⟨v, (T.setVm vm₁).calling g' mk (Value.ref b :: As).toArray, t, U', L, hT, X', hL, e1, e2, hq, st⟩
  · dsimp only [Pt.U, Pt.locs, Pt.cells, Pt.slots] at X' e1 e2 h1 h2 h3 st hcl
    subst h1; subst h2; subst h3
    exact Or.inr ⟨q, (T.setVm vm₁).calling g' mk (Value.ref b :: As).toArray, t, U', L, E, ce, hT, X', hL, e1, e2, hq, hce, hcv, vx_cls hW₁ hcl, st⟩
theorem vx_runSX {hh : List (Nat × Nat × Nat × Nat)} (S : CallFix p m c cc nL s args Ts own) (hM : vx_Met l y ws rm Pc Qc XC mc ms free) (cw : vx_CSW R s args own index y bytes maxL ret hh ws rm mc ms n) (hp : PreS s H Pc As)
    (hg : g.method = m) (hn : As.length = n) (hsize : g.locals.size = nL) (hstack : g.stack = As.reverse ++ rest) (hW : 2 * g.monitorRoom + (rest.map fun v => v.category).sum ≤ 8) (hdg : decode cc g.pc = .ok (.invokestatic index, 3)) (hf : cells + mc ≤ R.cells ∧ slots + ms ≤ R.slots) :
    vx_Run p l e R s m args below meth c H locs cells slots mc ms g rest (Qc As.toArray) XC free := by
  obtain ⟨⟨hrc, hrs, hfr, hlo, hws, hcw⟩, hcode, hini, hy, hlen, hl, hstt⟩ := cw
  have hK : vx_Back l R p e below s args y 3 8 (PreOf R mc ms Pc) (PostOf Qc mc ms free) (vx_Post XC mc ms free) := vx_backW (hh := hh) (bytes := bytes) (maxL := maxL) (ret := ret) hM hp.1 hrc hrs hfr hlo hws hcw (fun a' U hW => word_at hW (Or.inl (by first | rfl | simp [Cond.onTables, Cond.keeps, Cond.steady])) hini)
  obtain ⟨hx, hb, hml, ho, -⟩ := S
  intro T hT X
  rcases vx_callSX X hx (hh := hh) (bytes := bytes) (maxL := maxL) (ret := ret) ho hl hstt hini hcode hy hK hg (hsize.trans hml.symm) (argsL := As) (rest := rest) (fun sig h => hn.trans (hlen sig h)) hstack hW (by rw [hb]; exact hdg)
    (fun vm₁ hW₁ => ⟨hf.1, hf.2, hp.2 (T.setVm vm₁) hT hW₁⟩) with ⟨v, vm₁, ⟨U', l2, c2, s2⟩, hW₁, X', ⟨g', mk, t, L, e1, e2, hq, h1, hL, h2, h3⟩, st⟩ | ⟨q, vm₁, ⟨U', l2, c2, s2⟩, hW₁, X', ⟨g', mk, t, L, E, ce, e1, e2, hq, hce, hcv, hcl, h1, hL, h2, h3⟩, st⟩
  · dsimp only [Pt.U, Pt.locs, Pt.cells, Pt.slots] at X' e1 e2 h1 h2 h3 st
    subst h1; subst h2; subst h3
    exact Or.inl ⟨v, (T.setVm vm₁).calling g' mk As.toArray, t, U', L, hT, X', hL, e1, e2, hq, st⟩
  · dsimp only [Pt.U, Pt.locs, Pt.cells, Pt.slots] at X' e1 e2 h1 h2 h3 st hcl
    subst h1; subst h2; subst h3
    exact Or.inr ⟨q, (T.setVm vm₁).calling g' mk As.toArray, t, U', L, E, ce, hT, X', hL, e1, e2, hq, hce, hcv, vx_cls hW₁ hcl, st⟩
end
end VXH
theorem vx_ofWH {l : Launch} {y : MethodName} {ws ws' : List Cond} {rm : Room} {Pc : Array Value → State → Prop} {Qc : Array Value → State → Outcome → State → Prop} {XC : String → State → State → Prop} {mc ms : Nat} {free : Addr → Prop} {cc : ByteArray} {maxL : Nat} {ret : Option FieldType} {hh : List (Nat × Nat × Nat × Nat)}
    (hy : plainName y.cls = true) (hw : ws = Cond.codeWith y cc maxL ret hh :: ws')
    (body : ∀ p e s m args below meth c s₁, BodyLoose p l y (headSpec ws rm) cc maxL ret e s m args below meth c s₁ → c.maxLocals = maxL → Pc args s →
      W p l e (headSpec ws rm).room s m args below meth c s.heap [] 0 0 (vx_MQ below Qc XC args s mc ms free) (entryFrame m args maxL)) : vx_Met l y ws rm Pc Qc XC mc ms free := by
  refine MetFree.of_bodyS (code := cc) (maxLocals := maxL) (ret := ret) hy ?_ ?_
  · intro args s m h hn
    obtain ⟨m9, meth, c, hn9, h1, h2, h3, h4, -, h5, h6, -⟩ := Cond.codeWith_spec (atoms_spec (ws := ws) h _ (by rw [hw]; exact List.mem_cons_self))
    cases hn.symm.trans hn9
    exact ⟨meth, c, h1, h2, h3, h4, h5, h6⟩
  · intro p e s m args below meth c s₁ B hml hP _
    have hh0 : s₁.heap = s.heap := by rw [B.state]; rfl
    obtain ⟨t, a1, o, b1, b2, b3⟩ := body p e s m args below meth c s₁ B hml hP s₁ hh0 (Stand.of_body B)
    exact ⟨t, o, a1, b1, b2, b3⟩
/-! ===== END ===== -/

def RX0 : String := "ParleyRoom$Speaker"
def TX0 : u_T := fun k => match k with
  | 0 => ("ParleyRoom$Speaker", "number", "I", true)
  | 1 => ("ParleyRoom$Speaker", "power", "I", false)
  | 2 => ("ParleyRoom$Speaker", "languages", "I", false)
  | 3 => ("ParleyRoom$Speaker", "speaks", "I", false)
  | 4 => ("ParleyRoom$Speaker", "interprets", "Z", false)
  | 5 => ("ParleyRoom$Speaker", "deafUntil", "I", false)
  | 6 => ("ParleyRoom$Speaker", "lies", "I", false)
  | 7 => ("ParleyRoom$Speaker", "saying", "LParleyRoom$Turn;", false)
  | 8 => ("ParleyRoom$Speaker", "beliefs", "[I", true)
  | 9 => ("ParleyRoom$Speaker", "held", "[I", true)
  | 10 => ("ParleyRoom$Speaker", "heldBy", "[LParleyRoom$Turn;", true)
  | 11 => ("ParleyRoom$Speaker", "hints", "[LParleyRoom$Turn;", true)
  | 12 => ("ParleyRoom$Speaker", "reasons", "[I", true)
  | _ => ("ParleyRoom$Speaker", "disputes", "[I", true)
def tyX0 : Nat → FieldType := fun k => match k with
  | 0 => .int
  | 1 => .int
  | 2 => .int
  | 3 => .int
  | 4 => .boolean
  | 5 => .int
  | 6 => .int
  | 7 => .object "ParleyRoom$Turn"
  | 8 => .array .int
  | 9 => .array .int
  | 10 => .array (.object "ParleyRoom$Turn")
  | 11 => .array (.object "ParleyRoom$Turn")
  | 12 => .array .int
  | _ => .array .int
abbrev wsX00 : List Cond := u_ws RX0 TX0 14
theorem nmX0 : ∀ a, a < 14 → ∀ b, b < 14 → a ≠ b → (TX0 a).2.1 ≠ (TX0 b).2.1 := by decide +kernel
theorem tyX0_ok : ∀ k, k < 14 → parseFieldDescriptor (TX0 k).2.2.1 = some (tyX0 k) := by decide +kernel
abbrev cX0_init : ByteArray := prog_2_method_1_code
def yX0_init : MethodName := ⟨RX0, "<init>", "(I)V"⟩
abbrev cX0_isDeafAt : ByteArray := prog_2_method_2_code
def yX0_isDeafAt : MethodName := ⟨RX0, "isDeafAt", "(I)Z"⟩
abbrev cX0_disputedAtoms : ByteArray := prog_2_method_3_code
def yX0_disputedAtoms : MethodName := ⟨RX0, "disputedAtoms", "()I"⟩
def RX1 : String := "ParleyRoom$Step"
def TX1 : u_T := fun k => match k with
  | 0 => ("ParleyRoom$Step", "speaker", "I", true)
  | 1 => ("ParleyRoom$Step", "atom", "I", true)
  | _ => ("ParleyRoom$Step", "value", "I", true)
def tyX1 : Nat → FieldType := fun k => match k with
  | 0 => .int
  | 1 => .int
  | _ => .int
abbrev wsX10 : List Cond := u_ws RX1 TX1 3
theorem nmX1 : ∀ a, a < 3 → ∀ b, b < 3 → a ≠ b → (TX1 a).2.1 ≠ (TX1 b).2.1 := by decide +kernel
theorem tyX1_ok : ∀ k, k < 3 → parseFieldDescriptor (TX1 k).2.2.1 = some (tyX1 k) := by decide +kernel
abbrev cX1_init : ByteArray := prog_3_method_1_code
def yX1_init : MethodName := ⟨RX1, "<init>", "(III)V"⟩
def RX2 : String := "ParleyRoom$Turn"
def TX2 : u_T := fun k => match k with
  | 0 => ("ParleyRoom$Turn", "speaker", "LParleyRoom$Speaker;", true)
  | 1 => ("ParleyRoom$Turn", "act", "I", true)
  | 2 => ("ParleyRoom$Turn", "to", "I", true)
  | 3 => ("ParleyRoom$Turn", "given", "I", true)
  | 4 => ("ParleyRoom$Turn", "language", "I", true)
  | 5 => ("ParleyRoom$Turn", "number", "I", false)
  | 6 => ("ParleyRoom$Turn", "about", "I", false)
  | 7 => ("ParleyRoom$Turn", "value", "I", false)
  | 8 => ("ParleyRoom$Turn", "state", "I", false)
  | 9 => ("ParleyRoom$Turn", "carriedOutAt", "I", false)
  | 10 => ("ParleyRoom$Turn", "isOpen", "Z", false)
  | 11 => ("ParleyRoom$Turn", "reached", "[I", true)
  | _ => ("ParleyRoom$Turn", "reachedAt", "[I", true)
def tyX2 : Nat → FieldType := fun k => match k with
  | 0 => .object "ParleyRoom$Speaker"
  | 1 => .int
  | 2 => .int
  | 3 => .int
  | 4 => .int
  | 5 => .int
  | 6 => .int
  | 7 => .int
  | 8 => .int
  | 9 => .int
  | 10 => .boolean
  | 11 => .array .int
  | _ => .array .int
abbrev wsX20 : List Cond := u_ws RX2 TX2 13
theorem nmX2 : ∀ a, a < 13 → ∀ b, b < 13 → a ≠ b → (TX2 a).2.1 ≠ (TX2 b).2.1 := by decide +kernel
theorem tyX2_ok : ∀ k, k < 13 → parseFieldDescriptor (TX2 k).2.2.1 = some (tyX2 k) := by decide +kernel
abbrev cX2_init : ByteArray := prog_4_method_1_code
def yX2_init : MethodName := ⟨RX2, "<init>", "(LParleyRoom$Speaker;IIIII)V"⟩
abbrev cX2_isTo : ByteArray := prog_4_method_2_code
def yX2_isTo : MethodName := ⟨RX2, "isTo", "(LParleyRoom$Speaker;)Z"⟩
abbrev cX2_isToOneAlone : ByteArray := prog_4_method_3_code
def yX2_isToOneAlone : MethodName := ⟨RX2, "isToOneAlone", "()Z"⟩
abbrev cX2_listener : ByteArray := prog_4_method_4_code
def yX2_listener : MethodName := ⟨RX2, "listener", "()I"⟩
abbrev cX2_takesForGiven : ByteArray := prog_4_method_5_code
def yX2_takesForGiven : MethodName := ⟨RX2, "takesForGiven", "()Z"⟩
abbrev cX2_isClaim : ByteArray := prog_4_method_6_code
def yX2_isClaim : MethodName := ⟨RX2, "isClaim", "()Z"⟩
abbrev cX2_hasReachedSomebody : ByteArray := prog_4_method_7_code
def yX2_hasReachedSomebody : MethodName := ⟨RX2, "hasReachedSomebody", "(I)Z"⟩
def RX3 : String := "ParleyRoom"
def TX3 : u_T := fun k => match k with
  | 0 => ("ParleyRoom", "speakers", "[LParleyRoom$Speaker;", true)
  | 1 => ("ParleyRoom", "owners", "[I", true)
  | 2 => ("ParleyRoom", "turns", "Ljava/util/ArrayList;", true)
  | 3 => ("ParleyRoom", "asked", "Ljava/util/ArrayList;", true)
  | 4 => ("ParleyRoom", "steps", "Ljava/util/ArrayList;", true)
  | 5 => ("ParleyRoom", "strict", "Z", false)
  | 6 => ("ParleyRoom", "clock", "I", false)
  | 7 => ("ParleyRoom", "entitled", "I", false)
  | 8 => ("ParleyRoom", "entitledUntil", "I", false)
  | _ => ("ParleyRoom", "deals", "I", false)
def tyX3 : Nat → FieldType := fun k => match k with
  | 0 => .array (.object "ParleyRoom$Speaker")
  | 1 => .array .int
  | 2 => .object "java/util/ArrayList"
  | 3 => .object "java/util/ArrayList"
  | 4 => .object "java/util/ArrayList"
  | 5 => .boolean
  | 6 => .int
  | 7 => .int
  | 8 => .int
  | _ => .int
abbrev wsX30 : List Cond := u_ws RX3 TX3 10
theorem nmX3 : ∀ a, a < 10 → ∀ b, b < 10 → a ≠ b → (TX3 a).2.1 ≠ (TX3 b).2.1 := by decide +kernel
theorem tyX3_ok : ∀ k, k < 10 → parseFieldDescriptor (TX3 k).2.2.1 = some (tyX3 k) := by decide +kernel
abbrev cX3_init : ByteArray := prog_1_method_1_code
def yX3_init : MethodName := ⟨RX3, "<init>", "()V"⟩
abbrev cX3_power : ByteArray := prog_1_method_2_code
def yX3_power : MethodName := ⟨RX3, "power", "(II)I"⟩
abbrev cX3_knows : ByteArray := prog_1_method_3_code
def yX3_knows : MethodName := ⟨RX3, "knows", "(IIIZ)I"⟩
abbrev cX3_believe : ByteArray := prog_1_method_4_code
def yX3_believe : MethodName := ⟨RX3, "believe", "(III)I"⟩
abbrev cX3_deafen : ByteArray := prog_1_method_5_code
def yX3_deafen : MethodName := ⟨RX3, "deafen", "(II)I"⟩
abbrev cX3_give : ByteArray := prog_1_method_6_code
def yX3_give : MethodName := ⟨RX3, "give", "(II)I"⟩
abbrev cX3_strict : ByteArray := prog_1_method_7_code
def yX3_strict : MethodName := ⟨RX3, "strict", "(Z)Z"⟩
abbrev cX3_can : ByteArray := prog_1_method_8_code
def yX3_can : MethodName := ⟨RX3, "can", "(IIIIII)Z"⟩
abbrev cX3_say : ByteArray := prog_1_method_9_code
def yX3_say : MethodName := ⟨RX3, "say", "(IIIIII)I"⟩
abbrev cX3_tick : ByteArray := prog_1_method_10_code
def yX3_tick : MethodName := ⟨RX3, "tick", "(I)I"⟩
abbrev cX3_clock : ByteArray := prog_1_method_11_code
def yX3_clock : MethodName := ⟨RX3, "clock", "()I"⟩
abbrev cX3_next : ByteArray := prog_1_method_12_code
def yX3_next : MethodName := ⟨RX3, "next", "()I"⟩
abbrev cX3_said : ByteArray := prog_1_method_13_code
def yX3_said : MethodName := ⟨RX3, "said", "()I"⟩
abbrev cX3_turn : ByteArray := prog_1_method_14_code
def yX3_turn : MethodName := ⟨RX3, "turn", "(II)I"⟩
abbrev cX3_heard : ByteArray := prog_1_method_15_code
def yX3_heard : MethodName := ⟨RX3, "heard", "(II)I"⟩
abbrev cX3_stand : ByteArray := prog_1_method_16_code
def yX3_stand : MethodName := ⟨RX3, "stand", "(II)I"⟩
abbrev cX3_standBy : ByteArray := prog_1_method_17_code
def yX3_standBy : MethodName := ⟨RX3, "standBy", "(II)I"⟩
abbrev cX3_standAnew : ByteArray := prog_1_method_18_code
def yX3_standAnew : MethodName := ⟨RX3, "standAnew", "(II)I"⟩
abbrev cX3_hint : ByteArray := prog_1_method_19_code
def yX3_hint : MethodName := ⟨RX3, "hint", "(II)I"⟩
abbrev cX3_isSupported : ByteArray := prog_1_method_20_code
def yX3_isSupported : MethodName := ⟨RX3, "isSupported", "(II)Z"⟩
abbrev cX3_lies : ByteArray := prog_1_method_21_code
def yX3_lies : MethodName := ⟨RX3, "lies", "(I)I"⟩
abbrev cX3_ground : ByteArray := prog_1_method_22_code
def yX3_ground : MethodName := ⟨RX3, "ground", "(II)I"⟩
abbrev cX3_questions : ByteArray := prog_1_method_23_code
def yX3_questions : MethodName := ⟨RX3, "questions", "()I"⟩
abbrev cX3_question : ByteArray := prog_1_method_24_code
def yX3_question : MethodName := ⟨RX3, "question", "(II)I"⟩
abbrev cX3_quarrels : ByteArray := prog_1_method_25_code
def yX3_quarrels : MethodName := ⟨RX3, "quarrels", "()I"⟩
abbrev cX3_owner : ByteArray := prog_1_method_26_code
def yX3_owner : MethodName := ⟨RX3, "owner", "(I)I"⟩
abbrev cX3_deals : ByteArray := prog_1_method_27_code
def yX3_deals : MethodName := ⟨RX3, "deals", "()I"⟩
abbrev cX3_minutes : ByteArray := prog_1_method_28_code
def yX3_minutes : MethodName := ⟨RX3, "minutes", "()I"⟩
abbrev cX3_needSpeaker : ByteArray := prog_1_method_29_code
def yX3_needSpeaker : MethodName := ⟨RX3, "needSpeaker", "(I)V"⟩
abbrev cX3_needAtom : ByteArray := prog_1_method_30_code
def yX3_needAtom : MethodName := ⟨RX3, "needAtom", "(I)V"⟩
abbrev cX3_needGood : ByteArray := prog_1_method_31_code
def yX3_needGood : MethodName := ⟨RX3, "needGood", "(I)V"⟩
abbrev cX3_needRange : ByteArray := prog_1_method_32_code
def yX3_needRange : MethodName := ⟨RX3, "needRange", "(III)V"⟩
abbrev cX3_isWithin : ByteArray := prog_1_method_33_code
def yX3_isWithin : MethodName := ⟨RX3, "isWithin", "(III)Z"⟩
abbrev cX3_isAtom : ByteArray := prog_1_method_34_code
def yX3_isAtom : MethodName := ⟨RX3, "isAtom", "(I)Z"⟩
abbrev cX3_isIn : ByteArray := prog_1_method_35_code
def yX3_isIn : MethodName := ⟨RX3, "isIn", "(II)Z"⟩
abbrev cX3_contrary : ByteArray := prog_1_method_36_code
def yX3_contrary : MethodName := ⟨RX3, "contrary", "(I)I"⟩
abbrev cX3_turnAt : ByteArray := prog_1_method_37_code
def yX3_turnAt : MethodName := ⟨RX3, "turnAt", "(I)LParleyRoom$Turn;"⟩
abbrev cX3_topQuestion : ByteArray := prog_1_method_38_code
def yX3_topQuestion : MethodName := ⟨RX3, "topQuestion", "()LParleyRoom$Turn;"⟩
abbrev cX3_draft : ByteArray := prog_1_method_39_code
def yX3_draft : MethodName := ⟨RX3, "draft", "(IIIIII)LParleyRoom$Turn;"⟩
abbrev cX3_isWellTold : ByteArray := prog_1_method_40_code
def yX3_isWellTold : MethodName := ⟨RX3, "isWellTold", "(LParleyRoom$Turn;)Z"⟩
abbrev cX3_isAtomOrNone : ByteArray := prog_1_method_41_code
def yX3_isAtomOrNone : MethodName := ⟨RX3, "isAtomOrNone", "(I)Z"⟩
abbrev cX3_isWellOffered : ByteArray := prog_1_method_42_code
def yX3_isWellOffered : MethodName := ⟨RX3, "isWellOffered", "(LParleyRoom$Turn;)Z"⟩
abbrev cX3_canBeSaid : ByteArray := prog_1_method_43_code
def yX3_canBeSaid : MethodName := ⟨RX3, "canBeSaid", "(LParleyRoom$Turn;)Z"⟩
abbrev cX3_isPossible : ByteArray := prog_1_method_44_code
def yX3_isPossible : MethodName := ⟨RX3, "isPossible", "(LParleyRoom$Turn;)Z"⟩
abbrev cX3_isPossibleReply : ByteArray := prog_1_method_45_code
def yX3_isPossibleReply : MethodName := ⟨RX3, "isPossibleReply", "(LParleyRoom$Turn;LParleyRoom$Turn;)Z"⟩
abbrev cX3_isPermitted : ByteArray := prog_1_method_46_code
def yX3_isPermitted : MethodName := ⟨RX3, "isPermitted", "(LParleyRoom$Turn;)Z"⟩
abbrev cX3_carryOutAcks : ByteArray := prog_1_method_47_code
def yX3_carryOutAcks : MethodName := ⟨RX3, "carryOutAcks", "()V"⟩
abbrev cX3_turnWithFloor : ByteArray := prog_1_method_48_code
def yX3_turnWithFloor : MethodName := ⟨RX3, "turnWithFloor", "()LParleyRoom$Turn;"⟩
abbrev cX3_loseWhatIsStillSaid : ByteArray := prog_1_method_49_code
def yX3_loseWhatIsStillSaid : MethodName := ⟨RX3, "loseWhatIsStillSaid", "()V"⟩
abbrev cX3_carryOut : ByteArray := prog_1_method_50_code
def yX3_carryOut : MethodName := ⟨RX3, "carryOut", "(LParleyRoom$Turn;)V"⟩
abbrev cX3_isDoubted : ByteArray := prog_1_method_51_code
def yX3_isDoubted : MethodName := ⟨RX3, "isDoubted", "(LParleyRoom$Turn;)Z"⟩
abbrev cX3_perform : ByteArray := prog_1_method_52_code
def yX3_perform : MethodName := ⟨RX3, "perform", "(LParleyRoom$Turn;)V"⟩
abbrev cX3_performReply : ByteArray := prog_1_method_53_code
def yX3_performReply : MethodName := ⟨RX3, "performReply", "(LParleyRoom$Turn;LParleyRoom$Turn;)V"⟩
abbrev cX3_entitle : ByteArray := prog_1_method_54_code
def yX3_entitle : MethodName := ⟨RX3, "entitle", "(I)V"⟩
abbrev cX3_assertAtom : ByteArray := prog_1_method_55_code
def yX3_assertAtom : MethodName := ⟨RX3, "assertAtom", "(LParleyRoom$Turn;)V"⟩
abbrev cX3_answerTopQuestion : ByteArray := prog_1_method_56_code
def yX3_answerTopQuestion : MethodName := ⟨RX3, "answerTopQuestion", "(LParleyRoom$Turn;)V"⟩
abbrev cX3_closeTopQuestion : ByteArray := prog_1_method_57_code
def yX3_closeTopQuestion : MethodName := ⟨RX3, "closeTopQuestion", "()V"⟩
abbrev cX3_commitOwn : ByteArray := prog_1_method_58_code
def yX3_commitOwn : MethodName := ⟨RX3, "commitOwn", "(LParleyRoom$Turn;II)V"⟩
abbrev cX3_commit : ByteArray := prog_1_method_59_code
def yX3_commit : MethodName := ⟨RX3, "commit", "(LParleyRoom$Speaker;IILParleyRoom$Turn;)V"⟩
abbrev cX3_endSettledQuarrels : ByteArray := prog_1_method_60_code
def yX3_endSettledQuarrels : MethodName := ⟨RX3, "endSettledQuarrels", "(I)V"⟩
abbrev cX3_denyClaim : ByteArray := prog_1_method_61_code
def yX3_denyClaim : MethodName := ⟨RX3, "denyClaim", "(LParleyRoom$Turn;LParleyRoom$Turn;)V"⟩
abbrev cX3_giveReason : ByteArray := prog_1_method_62_code
def yX3_giveReason : MethodName := ⟨RX3, "giveReason", "(LParleyRoom$Turn;)V"⟩
abbrev cX3_isGround : ByteArray := prog_1_method_63_code
def yX3_isGround : MethodName := ⟨RX3, "isGround", "(III)Z"⟩
abbrev cX3_areWith : ByteArray := prog_1_method_64_code
def yX3_areWith : MethodName := ⟨RX3, "areWith", "(LParleyRoom$Speaker;II)Z"⟩
abbrev cX3_bothOwn : ByteArray := prog_1_method_65_code
def yX3_bothOwn : MethodName := ⟨RX3, "bothOwn", "(LParleyRoom$Turn;)Z"⟩
abbrev cX3_ownsAll : ByteArray := prog_1_method_66_code
def yX3_ownsAll : MethodName := ⟨RX3, "ownsAll", "(II)Z"⟩
abbrev cX3_openOffer : ByteArray := prog_1_method_67_code
def yX3_openOffer : MethodName := ⟨RX3, "openOffer", "(LParleyRoom$Turn;)V"⟩
abbrev cX3_acceptOffer : ByteArray := prog_1_method_68_code
def yX3_acceptOffer : MethodName := ⟨RX3, "acceptOffer", "(LParleyRoom$Turn;LParleyRoom$Turn;)V"⟩
abbrev cX3_handOver : ByteArray := prog_1_method_69_code
def yX3_handOver : MethodName := ⟨RX3, "handOver", "(II)V"⟩
abbrev cX3_deliver : ByteArray := prog_1_method_70_code
def yX3_deliver : MethodName := ⟨RX3, "deliver", "(LParleyRoom$Turn;)V"⟩
abbrev cX3_reachOf : ByteArray := prog_1_method_71_code
def yX3_reachOf : MethodName := ⟨RX3, "reachOf", "(LParleyRoom$Turn;LParleyRoom$Speaker;)I"⟩
abbrev cX3_hearWhatComesLate : ByteArray := prog_1_method_72_code
def yX3_hearWhatComesLate : MethodName := ⟨RX3, "hearWhatComesLate", "()V"⟩
abbrev cX3_endHints : ByteArray := prog_1_method_73_code
def yX3_endHints : MethodName := ⟨RX3, "endHints", "()V"⟩
abbrev cX3_closeOverdueOffers : ByteArray := prog_1_method_74_code
def yX3_closeOverdueOffers : MethodName := ⟨RX3, "closeOverdueOffers", "()V"⟩
abbrev cX3_countSilence : ByteArray := prog_1_method_75_code
def yX3_countSilence : MethodName := ⟨RX3, "countSilence", "()V"⟩
abbrev cX3_isAcceptedBySilence : ByteArray := prog_1_method_76_code
def yX3_isAcceptedBySilence : MethodName := ⟨RX3, "isAcceptedBySilence", "(LParleyRoom$Turn;LParleyRoom$Speaker;)Z"⟩
def RX4 : String := "ParleyRoomModel"
def TX4 : u_T := fun k => match k with
  | 0 => ("ParleyRoomModel", "clock", "I", false)
  | 1 => ("ParleyRoomModel", "isStrict", "Z", false)
  | 2 => ("ParleyRoomModel", "power", "[I", true)
  | 3 => ("ParleyRoomModel", "languages", "[I", true)
  | 4 => ("ParleyRoomModel", "speaks", "[I", true)
  | 5 => ("ParleyRoomModel", "interprets", "[Z", true)
  | 6 => ("ParleyRoomModel", "deaf", "[I", true)
  | 7 => ("ParleyRoomModel", "believes", "[I", true)
  | 8 => ("ParleyRoomModel", "stands", "[I", true)
  | 9 => ("ParleyRoomModel", "standsBy", "[I", true)
  | 10 => ("ParleyRoomModel", "hints", "[I", true)
  | 11 => ("ParleyRoomModel", "hintBy", "[I", true)
  | 12 => ("ParleyRoomModel", "lies", "[I", true)
  | 13 => ("ParleyRoomModel", "owner", "[I", true)
  | 14 => ("ParleyRoomModel", "deals", "I", false)
  | 15 => ("ParleyRoomModel", "right", "I", false)
  | 16 => ("ParleyRoomModel", "rightUntil", "I", false)
  | 17 => ("ParleyRoomModel", "turns", "I", false)
  | 18 => ("ParleyRoomModel", "who", "[I", true)
  | 19 => ("ParleyRoomModel", "act", "[I", true)
  | 20 => ("ParleyRoomModel", "about", "[I", true)
  | 21 => ("ParleyRoomModel", "value", "[I", true)
  | 22 => ("ParleyRoomModel", "to", "[I", true)
  | 23 => ("ParleyRoomModel", "given", "[I", true)
  | 24 => ("ParleyRoomModel", "state", "[I", true)
  | 25 => ("ParleyRoomModel", "done", "[I", true)
  | 26 => ("ParleyRoomModel", "language", "[I", true)
  | 27 => ("ParleyRoomModel", "isOpen", "[Z", true)
  | 28 => ("ParleyRoomModel", "has", "[I", true)
  | 29 => ("ParleyRoomModel", "since", "[I", true)
  | 30 => ("ParleyRoomModel", "now", "[I", true)
  | 31 => ("ParleyRoomModel", "questions", "I", false)
  | 32 => ("ParleyRoomModel", "asked", "[I", true)
  | 33 => ("ParleyRoomModel", "quarrel", "[Z", true)
  | 34 => ("ParleyRoomModel", "reason", "[Z", true)
  | _ => ("ParleyRoomModel", "thrown", "I", false)
def tyX4 : Nat → FieldType := fun k => match k with
  | 0 => .int
  | 1 => .boolean
  | 2 => .array .int
  | 3 => .array .int
  | 4 => .array .int
  | 5 => .array .boolean
  | 6 => .array .int
  | 7 => .array .int
  | 8 => .array .int
  | 9 => .array .int
  | 10 => .array .int
  | 11 => .array .int
  | 12 => .array .int
  | 13 => .array .int
  | 14 => .int
  | 15 => .int
  | 16 => .int
  | 17 => .int
  | 18 => .array .int
  | 19 => .array .int
  | 20 => .array .int
  | 21 => .array .int
  | 22 => .array .int
  | 23 => .array .int
  | 24 => .array .int
  | 25 => .array .int
  | 26 => .array .int
  | 27 => .array .boolean
  | 28 => .array .int
  | 29 => .array .int
  | 30 => .array .int
  | 31 => .int
  | 32 => .array .int
  | 33 => .array .boolean
  | 34 => .array .boolean
  | _ => .int
abbrev wsX40 : List Cond := u_ws RX4 TX4 36
theorem nmX4 : ∀ a, a < 36 → ∀ b, b < 36 → a ≠ b → (TX4 a).2.1 ≠ (TX4 b).2.1 := by decide +kernel
theorem tyX4_ok : ∀ k, k < 36 → parseFieldDescriptor (TX4 k).2.2.1 = some (tyX4 k) := by decide +kernel
abbrev cX4_init : ByteArray := prog_6_method_1_code
def yX4_init : MethodName := ⟨RX4, "<init>", "()V"⟩
abbrev cX4_thrown : ByteArray := prog_6_method_2_code
def yX4_thrown : MethodName := ⟨RX4, "thrown", "()I"⟩
abbrev cX4_in : ByteArray := prog_6_method_3_code
def yX4_in : MethodName := ⟨RX4, "in", "(III)Z"⟩
abbrev cX4_goes : ByteArray := prog_6_method_4_code
def yX4_goes : MethodName := ⟨RX4, "goes", "(ZZZ)Z"⟩
abbrev cX4_isSpeaker : ByteArray := prog_6_method_5_code
def yX4_isSpeaker : MethodName := ⟨RX4, "isSpeaker", "(I)Z"⟩
abbrev cX4_isAtom : ByteArray := prog_6_method_6_code
def yX4_isAtom : MethodName := ⟨RX4, "isAtom", "(I)Z"⟩
abbrev cX4_isIn : ByteArray := prog_6_method_7_code
def yX4_isIn : MethodName := ⟨RX4, "isIn", "(II)Z"⟩
abbrev cX4_contrary : ByteArray := prog_6_method_8_code
def yX4_contrary : MethodName := ⟨RX4, "contrary", "(I)I"⟩
abbrev cX4_power : ByteArray := prog_6_method_9_code
def yX4_power : MethodName := ⟨RX4, "power", "(II)I"⟩
abbrev cX4_knows : ByteArray := prog_6_method_10_code
def yX4_knows : MethodName := ⟨RX4, "knows", "(IIIZ)I"⟩
abbrev cX4_believe : ByteArray := prog_6_method_11_code
def yX4_believe : MethodName := ⟨RX4, "believe", "(III)I"⟩
abbrev cX4_deafen : ByteArray := prog_6_method_12_code
def yX4_deafen : MethodName := ⟨RX4, "deafen", "(II)I"⟩
abbrev cX4_give : ByteArray := prog_6_method_13_code
def yX4_give : MethodName := ⟨RX4, "give", "(II)I"⟩
abbrev cX4_strict : ByteArray := prog_6_method_14_code
def yX4_strict : MethodName := ⟨RX4, "strict", "(Z)Z"⟩
abbrev cX4_isOfTurn : ByteArray := prog_6_method_15_code
def yX4_isOfTurn : MethodName := ⟨RX4, "isOfTurn", "(I)Z"⟩
abbrev cX4_isOfAtom : ByteArray := prog_6_method_16_code
def yX4_isOfAtom : MethodName := ⟨RX4, "isOfAtom", "(I)Z"⟩
abbrev cX4_one : ByteArray := prog_6_method_17_code
def yX4_one : MethodName := ⟨RX4, "one", "(I)I"⟩
abbrev cX4_isTold : ByteArray := prog_6_method_18_code
def yX4_isTold : MethodName := ⟨RX4, "isTold", "(IIIIII)Z"⟩
abbrev cX4_owns : ByteArray := prog_6_method_19_code
def yX4_owns : MethodName := ⟨RX4, "owns", "(II)Z"⟩
abbrev cX4_isMissed : ByteArray := prog_6_method_20_code
def yX4_isMissed : MethodName := ⟨RX4, "isMissed", "(I)Z"⟩
abbrev cX4_isClaim : ByteArray := prog_6_method_21_code
def yX4_isClaim : MethodName := ⟨RX4, "isClaim", "(I)Z"⟩
abbrev cX4_topAsked : ByteArray := prog_6_method_22_code
def yX4_topAsked : MethodName := ⟨RX4, "topAsked", "()I"⟩
abbrev cX4_isPossible : ByteArray := prog_6_method_23_code
def yX4_isPossible : MethodName := ⟨RX4, "isPossible", "(IIIII)Z"⟩
abbrev cX4_assertsIn : ByteArray := prog_6_method_24_code
def yX4_assertsIn : MethodName := ⟨RX4, "assertsIn", "(II)Z"⟩
abbrev cX4_isPermitted : ByteArray := prog_6_method_25_code
def yX4_isPermitted : MethodName := ⟨RX4, "isPermitted", "(III)Z"⟩
abbrev cX4_canSay : ByteArray := prog_6_method_26_code
def yX4_canSay : MethodName := ⟨RX4, "canSay", "(IIIII)Z"⟩
abbrev cX4_can : ByteArray := prog_6_method_27_code
def yX4_can : MethodName := ⟨RX4, "can", "(IIIIII)Z"⟩
abbrev cX4_say : ByteArray := prog_6_method_28_code
def yX4_say : MethodName := ⟨RX4, "say", "(IIIIII)I"⟩
abbrev cX4_isDeaf : ByteArray := prog_6_method_29_code
def yX4_isDeaf : MethodName := ⟨RX4, "isDeaf", "(I)Z"⟩
abbrev cX4_hasInterpreter : ByteArray := prog_6_method_30_code
def yX4_hasInterpreter : MethodName := ⟨RX4, "hasInterpreter", "(II)Z"⟩
abbrev cX4_delivers : ByteArray := prog_6_method_31_code
def yX4_delivers : MethodName := ⟨RX4, "delivers", "(I)V"⟩
abbrev cX4_comesLate : ByteArray := prog_6_method_32_code
def yX4_comesLate : MethodName := ⟨RX4, "comesLate", "()V"⟩
abbrev cX4_commits : ByteArray := prog_6_method_33_code
def yX4_commits : MethodName := ⟨RX4, "commits", "(IIII)V"⟩
abbrev cX4_says : ByteArray := prog_6_method_34_code
def yX4_says : MethodName := ⟨RX4, "says", "(III)V"⟩
abbrev cX4_endsQuarrels : ByteArray := prog_6_method_35_code
def yX4_endsQuarrels : MethodName := ⟨RX4, "endsQuarrels", "()V"⟩
abbrev cX4_isChallenged : ByteArray := prog_6_method_36_code
def yX4_isChallenged : MethodName := ⟨RX4, "isChallenged", "(I)Z"⟩
abbrev cX4_rightTo : ByteArray := prog_6_method_37_code
def yX4_rightTo : MethodName := ⟨RX4, "rightTo", "(I)V"⟩
abbrev cX4_carries : ByteArray := prog_6_method_38_code
def yX4_carries : MethodName := ⟨RX4, "carries", "(I)V"⟩
abbrev cX4_doesQuestion : ByteArray := prog_6_method_39_code
def yX4_doesQuestion : MethodName := ⟨RX4, "doesQuestion", "(I)V"⟩
abbrev cX4_doesTurn : ByteArray := prog_6_method_40_code
def yX4_doesTurn : MethodName := ⟨RX4, "doesTurn", "(I)V"⟩
abbrev cX4_doesAtom : ByteArray := prog_6_method_41_code
def yX4_doesAtom : MethodName := ⟨RX4, "doesAtom", "(I)V"⟩
abbrev cX4_doesOffer : ByteArray := prog_6_method_42_code
def yX4_doesOffer : MethodName := ⟨RX4, "doesOffer", "(I)V"⟩
abbrev cX4_acks : ByteArray := prog_6_method_43_code
def yX4_acks : MethodName := ⟨RX4, "acks", "()V"⟩
abbrev cX4_holder : ByteArray := prog_6_method_44_code
def yX4_holder : MethodName := ⟨RX4, "holder", "()I"⟩
abbrev cX4_floor : ByteArray := prog_6_method_45_code
def yX4_floor : MethodName := ⟨RX4, "floor", "()V"⟩
abbrev cX4_isTaken : ByteArray := prog_6_method_46_code
def yX4_isTaken : MethodName := ⟨RX4, "isTaken", "(I)Z"⟩
abbrev cX4_hardens : ByteArray := prog_6_method_47_code
def yX4_hardens : MethodName := ⟨RX4, "hardens", "()V"⟩
abbrev cX4_silence : ByteArray := prog_6_method_48_code
def yX4_silence : MethodName := ⟨RX4, "silence", "()V"⟩
abbrev cX4_tick : ByteArray := prog_6_method_49_code
def yX4_tick : MethodName := ⟨RX4, "tick", "(I)I"⟩
abbrev cX4_told : ByteArray := prog_6_method_50_code
def yX4_told : MethodName := ⟨RX4, "told", "(I)I"⟩
abbrev cX4_clock : ByteArray := prog_6_method_51_code
def yX4_clock : MethodName := ⟨RX4, "clock", "()I"⟩
abbrev cX4_next : ByteArray := prog_6_method_52_code
def yX4_next : MethodName := ⟨RX4, "next", "()I"⟩
abbrev cX4_said : ByteArray := prog_6_method_53_code
def yX4_said : MethodName := ⟨RX4, "said", "()I"⟩
abbrev cX4_ofTurn : ByteArray := prog_6_method_54_code
def yX4_ofTurn : MethodName := ⟨RX4, "ofTurn", "(II)I"⟩
abbrev cX4_turn : ByteArray := prog_6_method_55_code
def yX4_turn : MethodName := ⟨RX4, "turn", "(II)I"⟩
abbrev cX4_heard : ByteArray := prog_6_method_56_code
def yX4_heard : MethodName := ⟨RX4, "heard", "(II)I"⟩
abbrev cX4_isCell : ByteArray := prog_6_method_57_code
def yX4_isCell : MethodName := ⟨RX4, "isCell", "(II)Z"⟩
abbrev cX4_stand : ByteArray := prog_6_method_58_code
def yX4_stand : MethodName := ⟨RX4, "stand", "(II)I"⟩
abbrev cX4_standBy : ByteArray := prog_6_method_59_code
def yX4_standBy : MethodName := ⟨RX4, "standBy", "(II)I"⟩
abbrev cX4_standAnew : ByteArray := prog_6_method_60_code
def yX4_standAnew : MethodName := ⟨RX4, "standAnew", "(II)I"⟩
abbrev cX4_hint : ByteArray := prog_6_method_61_code
def yX4_hint : MethodName := ⟨RX4, "hint", "(II)I"⟩
abbrev cX4_isSupported : ByteArray := prog_6_method_62_code
def yX4_isSupported : MethodName := ⟨RX4, "isSupported", "(II)Z"⟩
abbrev cX4_lies : ByteArray := prog_6_method_63_code
def yX4_lies : MethodName := ⟨RX4, "lies", "(I)I"⟩
abbrev cX4_isGround : ByteArray := prog_6_method_64_code
def yX4_isGround : MethodName := ⟨RX4, "isGround", "(IIII)Z"⟩
abbrev cX4_ground : ByteArray := prog_6_method_65_code
def yX4_ground : MethodName := ⟨RX4, "ground", "(II)I"⟩
abbrev cX4_questions : ByteArray := prog_6_method_66_code
def yX4_questions : MethodName := ⟨RX4, "questions", "()I"⟩
abbrev cX4_question : ByteArray := prog_6_method_67_code
def yX4_question : MethodName := ⟨RX4, "question", "(II)I"⟩
abbrev cX4_quarrels : ByteArray := prog_6_method_68_code
def yX4_quarrels : MethodName := ⟨RX4, "quarrels", "()I"⟩
abbrev cX4_owner : ByteArray := prog_6_method_69_code
def yX4_owner : MethodName := ⟨RX4, "owner", "(I)I"⟩
abbrev cX4_deals : ByteArray := prog_6_method_70_code
def yX4_deals : MethodName := ⟨RX4, "deals", "()I"⟩
abbrev cX4_minutes : ByteArray := prog_6_method_71_code
def yX4_minutes : MethodName := ⟨RX4, "minutes", "()I"⟩
def RJx145de : String := "java/io/Serializable"
def TJx145de : u_T := fun k => match k with
  | _ => ("", "", "", false)
def tyJx145de : Nat → FieldType := fun k => match k with
  | _ => .int
abbrev wsJx145de0 : List Cond := u_ws RJx145de TJx145de 0
theorem nmJx145de : ∀ a, a < 0 → ∀ b, b < 0 → a ≠ b → (TJx145de a).2.1 ≠ (TJx145de b).2.1 := by decide +kernel
theorem tyJx145de_ok : ∀ k, k < 0 → parseFieldDescriptor (TJx145de k).2.2.1 = some (tyJx145de k) := by decide +kernel
def RJx8e188 : String := "java/lang/Cloneable"
def TJx8e188 : u_T := fun k => match k with
  | _ => ("", "", "", false)
def tyJx8e188 : Nat → FieldType := fun k => match k with
  | _ => .int
abbrev wsJx8e1880 : List Cond := u_ws RJx8e188 TJx8e188 0
theorem nmJx8e188 : ∀ a, a < 0 → ∀ b, b < 0 → a ≠ b → (TJx8e188 a).2.1 ≠ (TJx8e188 b).2.1 := by decide +kernel
theorem tyJx8e188_ok : ∀ k, k < 0 → parseFieldDescriptor (TJx8e188 k).2.2.1 = some (tyJx8e188 k) := by decide +kernel
def RJ6 : String := "java/lang/Integer"
def TJ6 : u_T := fun k => match k with
  | _ => ("", "", "", false)
def tyJ6 : Nat → FieldType := fun k => match k with
  | _ => .int
abbrev wsJ60 : List Cond := u_ws RJ6 TJ6 0
theorem nmJ6 : ∀ a, a < 0 → ∀ b, b < 0 → a ≠ b → (TJ6 a).2.1 ≠ (TJ6 b).2.1 := by decide +kernel
theorem tyJ6_ok : ∀ k, k < 0 → parseFieldDescriptor (TJ6 k).2.2.1 = some (tyJ6 k) := by decide +kernel
abbrev cJ6_bitCount_0f7a4 : ByteArray := prog_13_method_49_code
def yJ6_bitCount_0f7a4 : MethodName := ⟨RJ6, "bitCount", "(I)I"⟩
def RJxab1ab : String := "java/lang/Iterable"
def TJxab1ab : u_T := fun k => match k with
  | _ => ("", "", "", false)
def tyJxab1ab : Nat → FieldType := fun k => match k with
  | _ => .int
abbrev wsJxab1ab0 : List Cond := u_ws RJxab1ab TJxab1ab 0
theorem nmJxab1ab : ∀ a, a < 0 → ∀ b, b < 0 → a ≠ b → (TJxab1ab a).2.1 ≠ (TJxab1ab b).2.1 := by decide +kernel
theorem tyJxab1ab_ok : ∀ k, k < 0 → parseFieldDescriptor (TJxab1ab k).2.2.1 = some (tyJxab1ab k) := by decide +kernel
def RJ9 : String := "java/lang/Math"
def TJ9 : u_T := fun k => match k with
  | _ => ("", "", "", false)
def tyJ9 : Nat → FieldType := fun k => match k with
  | _ => .int
abbrev wsJ90 : List Cond := u_ws RJ9 TJ9 0
theorem nmJ9 : ∀ a, a < 0 → ∀ b, b < 0 → a ≠ b → (TJ9 a).2.1 ≠ (TJ9 b).2.1 := by decide +kernel
theorem tyJ9_ok : ∀ k, k < 0 → parseFieldDescriptor (TJ9 k).2.2.1 = some (tyJ9 k) := by decide +kernel
abbrev cJ9_max_7cf53 : ByteArray := prog_15_method_65_code
def yJ9_max_7cf53 : MethodName := ⟨RJ9, "max", "(II)I"⟩
abbrev cJ9_min_7cf53 : ByteArray := prog_15_method_69_code
def yJ9_min_7cf53 : MethodName := ⟨RJ9, "min", "(II)I"⟩
def RJ0 : String := "java/lang/String"
def TJ0 : u_T := fun k => match k with
  | _ => ("", "", "", false)
def tyJ0 : Nat → FieldType := fun k => match k with
  | _ => .int
abbrev wsJ00 : List Cond := u_ws RJ0 TJ0 0
theorem nmJ0 : ∀ a, a < 0 → ∀ b, b < 0 → a ≠ b → (TJ0 a).2.1 ≠ (TJ0 b).2.1 := by decide +kernel
theorem tyJ0_ok : ∀ k, k < 0 → parseFieldDescriptor (TJ0 k).2.2.1 = some (tyJ0 k) := by decide +kernel
def RJ10 : String := "java/lang/System"
def TJ10 : u_T := fun k => match k with
  | _ => ("", "", "", false)
def tyJ10 : Nat → FieldType := fun k => match k with
  | _ => .int
abbrev wsJ100 : List Cond := u_ws RJ10 TJ10 0
theorem nmJ10 : ∀ a, a < 0 → ∀ b, b < 0 → a ≠ b → (TJ10 a).2.1 ≠ (TJ10 b).2.1 := by decide +kernel
theorem tyJ10_ok : ∀ k, k < 0 → parseFieldDescriptor (TJ10 k).2.2.1 = some (tyJ10 k) := by decide +kernel
def RJxa1e45 : String := "java/util/AbstractCollection"
def TJxa1e45 : u_T := fun k => match k with
  | _ => ("", "", "", false)
def tyJxa1e45 : Nat → FieldType := fun k => match k with
  | _ => .int
abbrev wsJxa1e450 : List Cond := u_ws RJxa1e45 TJxa1e45 0
theorem nmJxa1e45 : ∀ a, a < 0 → ∀ b, b < 0 → a ≠ b → (TJxa1e45 a).2.1 ≠ (TJxa1e45 b).2.1 := by decide +kernel
theorem tyJxa1e45_ok : ∀ k, k < 0 → parseFieldDescriptor (TJxa1e45 k).2.2.1 = some (tyJxa1e45 k) := by decide +kernel
abbrev cJxa1e45_init_da8c8 : ByteArray := prog_20_method_1_code
def yJxa1e45_init_da8c8 : MethodName := ⟨RJxa1e45, "<init>", "()V"⟩
def RJxc12de : String := "java/util/AbstractList"
def TJxc12de : u_T := fun k => match k with
  | _ => ("", "", "", false)
def tyJxc12de : Nat → FieldType := fun k => match k with
  | _ => .int
abbrev wsJxc12de0 : List Cond := u_ws RJxc12de TJxc12de 0
theorem nmJxc12de : ∀ a, a < 0 → ∀ b, b < 0 → a ≠ b → (TJxc12de a).2.1 ≠ (TJxc12de b).2.1 := by decide +kernel
theorem tyJxc12de_ok : ∀ k, k < 0 → parseFieldDescriptor (TJxc12de k).2.2.1 = some (tyJxc12de k) := by decide +kernel
abbrev cJxc12de_init_da8c8 : ByteArray := prog_21_method_1_code
def yJxc12de_init_da8c8 : MethodName := ⟨RJxc12de, "<init>", "()V"⟩
def RJx4a65c : String := "java/util/ArrayList"
def TJx4a65c : u_T := fun k => match k with
  | 0 => ("java/util/AbstractList", "modCount", "I", false)
  | 1 => ("java/util/ArrayList", "elementData", "[Ljava/lang/Object;", false)
  | _ => ("java/util/ArrayList", "size", "I", false)
def tyJx4a65c : Nat → FieldType := fun k => match k with
  | 0 => .int
  | 1 => .array (.object "java/lang/Object")
  | _ => .int
abbrev wsJx4a65c0 : List Cond := u_ws RJx4a65c TJx4a65c 3
theorem nmJx4a65c : ∀ a, a < 3 → ∀ b, b < 3 → a ≠ b → (TJx4a65c a).2.1 ≠ (TJx4a65c b).2.1 := by decide +kernel
theorem tyJx4a65c_ok : ∀ k, k < 3 → parseFieldDescriptor (TJx4a65c k).2.2.1 = some (tyJx4a65c k) := by decide +kernel
abbrev cJx4a65c_init_da8c8 : ByteArray := prog_22_method_2_code
def yJx4a65c_init_da8c8 : MethodName := ⟨RJx4a65c, "<init>", "()V"⟩
abbrev cJx4a65c_grow_92f84 : ByteArray := prog_22_method_6_code
def yJx4a65c_grow_92f84 : MethodName := ⟨RJx4a65c, "grow", "(I)[Ljava/lang/Object;"⟩
abbrev cJx4a65c_grow_d5877 : ByteArray := prog_22_method_7_code
def yJx4a65c_grow_d5877 : MethodName := ⟨RJx4a65c, "grow", "()[Ljava/lang/Object;"⟩
abbrev cJx4a65c_size_8abf5 : ByteArray := prog_22_method_8_code
def yJx4a65c_size_8abf5 : MethodName := ⟨RJx4a65c, "size", "()I"⟩
abbrev cJx4a65c_isEmpty_aae02 : ByteArray := prog_22_method_9_code
def yJx4a65c_isEmpty_aae02 : MethodName := ⟨RJx4a65c, "isEmpty", "()Z"⟩
abbrev cJx4a65c_elementData_915e3 : ByteArray := prog_22_method_18_code
def yJx4a65c_elementData_915e3 : MethodName := ⟨RJx4a65c, "elementData", "(I)Ljava/lang/Object;"⟩
abbrev cJx4a65c_get_915e3 : ByteArray := prog_22_method_20_code
def yJx4a65c_get_915e3 : MethodName := ⟨RJx4a65c, "get", "(I)Ljava/lang/Object;"⟩
abbrev cJx4a65c_add_72be8 : ByteArray := prog_22_method_24_code
def yJx4a65c_add_72be8 : MethodName := ⟨RJx4a65c, "add", "(Ljava/lang/Object;[Ljava/lang/Object;I)V"⟩
abbrev cJx4a65c_add_9ea2d : ByteArray := prog_22_method_25_code
def yJx4a65c_add_9ea2d : MethodName := ⟨RJx4a65c, "add", "(Ljava/lang/Object;)Z"⟩
abbrev cJx4a65c_remove_915e3 : ByteArray := prog_22_method_29_code
def yJx4a65c_remove_915e3 : MethodName := ⟨RJx4a65c, "remove", "(I)Ljava/lang/Object;"⟩
abbrev cJx4a65c_fastRemove_b59b0 : ByteArray := prog_22_method_39_code
def yJx4a65c_fastRemove_b59b0 : MethodName := ⟨RJx4a65c, "fastRemove", "([Ljava/lang/Object;I)V"⟩
def RJ7 : String := "java/util/Arrays"
def TJ7 : u_T := fun k => match k with
  | _ => ("", "", "", false)
def tyJ7 : Nat → FieldType := fun k => match k with
  | _ => .int
abbrev wsJ70 : List Cond := u_ws RJ7 TJ7 0
theorem nmJ7 : ∀ a, a < 0 → ∀ b, b < 0 → a ≠ b → (TJ7 a).2.1 ≠ (TJ7 b).2.1 := by decide +kernel
theorem tyJ7_ok : ∀ k, k < 0 → parseFieldDescriptor (TJ7 k).2.2.1 = some (tyJ7 k) := by decide +kernel
abbrev cJ7_copyOf_1904c : ByteArray := prog_23_method_119_code
def yJ7_copyOf_1904c : MethodName := ⟨RJ7, "copyOf", "([Ljava/lang/Object;I)[Ljava/lang/Object;"⟩
abbrev cJ7_copyOf_6403c : ByteArray := prog_23_method_120_code
def yJ7_copyOf_6403c : MethodName := ⟨RJ7, "copyOf", "([Ljava/lang/Object;ILjava/lang/Class;)[Ljava/lang/Object;"⟩
def RJx5ef63 : String := "java/util/Collection"
def TJx5ef63 : u_T := fun k => match k with
  | _ => ("", "", "", false)
def tyJx5ef63 : Nat → FieldType := fun k => match k with
  | _ => .int
abbrev wsJx5ef630 : List Cond := u_ws RJx5ef63 TJx5ef63 0
theorem nmJx5ef63 : ∀ a, a < 0 → ∀ b, b < 0 → a ≠ b → (TJx5ef63 a).2.1 ≠ (TJx5ef63 b).2.1 := by decide +kernel
theorem tyJx5ef63_ok : ∀ k, k < 0 → parseFieldDescriptor (TJx5ef63 k).2.2.1 = some (tyJx5ef63 k) := by decide +kernel
def RJxbd725 : String := "java/util/List"
def TJxbd725 : u_T := fun k => match k with
  | _ => ("", "", "", false)
def tyJxbd725 : Nat → FieldType := fun k => match k with
  | _ => .int
abbrev wsJxbd7250 : List Cond := u_ws RJxbd725 TJxbd725 0
theorem nmJxbd725 : ∀ a, a < 0 → ∀ b, b < 0 → a ≠ b → (TJxbd725 a).2.1 ≠ (TJxbd725 b).2.1 := by decide +kernel
theorem tyJxbd725_ok : ∀ k, k < 0 → parseFieldDescriptor (TJxbd725 k).2.2.1 = some (tyJxbd725 k) := by decide +kernel
def RJ15 : String := "java/util/Objects"
def TJ15 : u_T := fun k => match k with
  | _ => ("", "", "", false)
def tyJ15 : Nat → FieldType := fun k => match k with
  | _ => .int
abbrev wsJ150 : List Cond := u_ws RJ15 TJ15 0
theorem nmJ15 : ∀ a, a < 0 → ∀ b, b < 0 → a ≠ b → (TJ15 a).2.1 ≠ (TJ15 b).2.1 := by decide +kernel
theorem tyJ15_ok : ∀ k, k < 0 → parseFieldDescriptor (TJ15 k).2.2.1 = some (tyJ15 k) := by decide +kernel
abbrev cJ15_checkIndex_7cf53 : ByteArray := prog_26_method_17_code
def yJ15_checkIndex_7cf53 : MethodName := ⟨RJ15, "checkIndex", "(II)I"⟩
def RJxf0a74 : String := "java/util/RandomAccess"
def TJxf0a74 : u_T := fun k => match k with
  | _ => ("", "", "", false)
def tyJxf0a74 : Nat → FieldType := fun k => match k with
  | _ => .int
abbrev wsJxf0a740 : List Cond := u_ws RJxf0a74 TJxf0a74 0
theorem nmJxf0a74 : ∀ a, a < 0 → ∀ b, b < 0 → a ≠ b → (TJxf0a74 a).2.1 ≠ (TJxf0a74 b).2.1 := by decide +kernel
theorem tyJxf0a74_ok : ∀ k, k < 0 → parseFieldDescriptor (TJxf0a74 k).2.2.1 = some (tyJxf0a74 k) := by decide +kernel
def RJxa66e6 : String := "java/util/SequencedCollection"
def TJxa66e6 : u_T := fun k => match k with
  | _ => ("", "", "", false)
def tyJxa66e6 : Nat → FieldType := fun k => match k with
  | _ => .int
abbrev wsJxa66e60 : List Cond := u_ws RJxa66e6 TJxa66e6 0
theorem nmJxa66e6 : ∀ a, a < 0 → ∀ b, b < 0 → a ≠ b → (TJxa66e6 a).2.1 ≠ (TJxa66e6 b).2.1 := by decide +kernel
theorem tyJxa66e6_ok : ∀ k, k < 0 → parseFieldDescriptor (TJxa66e6 k).2.2.1 = some (tyJxa66e6 k) := by decide +kernel
def RJ8 : String := "jdk/internal/util/ArraysSupport"
def TJ8 : u_T := fun k => match k with
  | _ => ("", "", "", false)
def tyJ8 : Nat → FieldType := fun k => match k with
  | _ => .int
abbrev wsJ80 : List Cond := u_ws RJ8 TJ8 0
theorem nmJ8 : ∀ a, a < 0 → ∀ b, b < 0 → a ≠ b → (TJ8 a).2.1 ≠ (TJ8 b).2.1 := by decide +kernel
theorem tyJ8_ok : ∀ k, k < 0 → parseFieldDescriptor (TJ8 k).2.2.1 = some (tyJ8 k) := by decide +kernel
abbrev cJ8_newLength_cabcc : ByteArray := prog_29_method_27_code
def yJ8_newLength_cabcc : MethodName := ⟨RJ8, "newLength", "(III)I"⟩
abbrev cJ8_hugeLength_7cf53 : ByteArray := prog_29_method_28_code
def yJ8_hugeLength_7cf53 : MethodName := ⟨RJ8, "hugeLength", "(II)I"⟩
def RJ3 : String := "jdk/internal/util/Preconditions"
def TJ3 : u_T := fun k => match k with
  | _ => ("", "", "", false)
def tyJ3 : Nat → FieldType := fun k => match k with
  | _ => .int
abbrev wsJ30 : List Cond := u_ws RJ3 TJ3 0
theorem nmJ3 : ∀ a, a < 0 → ∀ b, b < 0 → a ≠ b → (TJ3 a).2.1 ≠ (TJ3 b).2.1 := by decide +kernel
theorem tyJ3_ok : ∀ k, k < 0 → parseFieldDescriptor (TJ3 k).2.2.1 = some (tyJ3 k) := by decide +kernel
abbrev cJ3_checkIndex_8e157 : ByteArray := prog_30_method_11_code
def yJ3_checkIndex_8e157 : MethodName := ⟨RJ3, "checkIndex", "(IILjava/util/function/BiFunction;)I"⟩
def RL : String := "ParleyRoomLaw"
abbrev cL_power : ByteArray := method_3_code
def yL_power : MethodName := ⟨RL, "power", "(LParleyRoom;II[J)I"⟩
abbrev cL_knows : ByteArray := method_4_code
def yL_knows : MethodName := ⟨RL, "knows", "(LParleyRoom;IIIZ[J)I"⟩
abbrev cL_believe : ByteArray := method_5_code
def yL_believe : MethodName := ⟨RL, "believe", "(LParleyRoom;III[J)I"⟩
abbrev cL_deafen : ByteArray := method_6_code
def yL_deafen : MethodName := ⟨RL, "deafen", "(LParleyRoom;II[J)I"⟩
abbrev cL_give : ByteArray := method_7_code
def yL_give : MethodName := ⟨RL, "give", "(LParleyRoom;II[J)I"⟩
abbrev cL_can : ByteArray := method_8_code
def yL_can : MethodName := ⟨RL, "can", "(LParleyRoom;IIIIII[J)I"⟩
abbrev cL_say : ByteArray := method_9_code
def yL_say : MethodName := ⟨RL, "say", "(LParleyRoom;IIIIII[J)I"⟩
abbrev cL_tick : ByteArray := method_10_code
def yL_tick : MethodName := ⟨RL, "tick", "(LParleyRoom;I[J)I"⟩
abbrev cL_turn : ByteArray := method_11_code
def yL_turn : MethodName := ⟨RL, "turn", "(LParleyRoom;II[J)I"⟩
abbrev cL_heard : ByteArray := method_12_code
def yL_heard : MethodName := ⟨RL, "heard", "(LParleyRoom;II[J)I"⟩
abbrev cL_stand : ByteArray := method_13_code
def yL_stand : MethodName := ⟨RL, "stand", "(LParleyRoom;II[J)I"⟩
abbrev cL_standBy : ByteArray := method_14_code
def yL_standBy : MethodName := ⟨RL, "standBy", "(LParleyRoom;II[J)I"⟩
abbrev cL_standAnew : ByteArray := method_15_code
def yL_standAnew : MethodName := ⟨RL, "standAnew", "(LParleyRoom;II[J)I"⟩
abbrev cL_hint : ByteArray := method_16_code
def yL_hint : MethodName := ⟨RL, "hint", "(LParleyRoom;II[J)I"⟩
abbrev cL_isSupported : ByteArray := method_17_code
def yL_isSupported : MethodName := ⟨RL, "isSupported", "(LParleyRoom;II[J)I"⟩
abbrev cL_lies : ByteArray := method_18_code
def yL_lies : MethodName := ⟨RL, "lies", "(LParleyRoom;I[J)I"⟩
abbrev cL_ground : ByteArray := method_19_code
def yL_ground : MethodName := ⟨RL, "ground", "(LParleyRoom;II[J)I"⟩
abbrev cL_question : ByteArray := method_20_code
def yL_question : MethodName := ⟨RL, "question", "(LParleyRoom;II[J)I"⟩
abbrev cL_owner : ByteArray := method_21_code
def yL_owner : MethodName := ⟨RL, "owner", "(LParleyRoom;I[J)I"⟩
abbrev cL_law : ByteArray := code
def yL_law : MethodName := ⟨RL, "law", "([I)Z"⟩
abbrev vwCl : List vw_C := [(RJx4a65c, TJx4a65c, 3), (RX0, TX0, 14), (RX1, TX1, 3), (RX2, TX2, 13), (RX3, TX3, 10), (RX4, TX4, 36)]
end
section
theorem dX0_init_0 : decode cX0_init 0 = .ok (.aload_n 0, 1) := by decide +kernel
theorem dX0_init_1 : decode cX0_init 1 = .ok (.invokespecial 3, 3) := by decide +kernel
theorem dX0_init_4 : decode cX0_init 4 = .ok (.aload_n 0, 1) := by decide +kernel
theorem dX0_init_5 : decode cX0_init 5 = .ok (.iconst 1, 1) := by decide +kernel
theorem dX0_init_6 : decode cX0_init 6 = .ok (.putfield 9, 3) := by decide +kernel
theorem dX0_init_9 : decode cX0_init 9 = .ok (.aload_n 0, 1) := by decide +kernel
theorem dX0_init_10 : decode cX0_init 10 = .ok (.bipush 10, 2) := by decide +kernel
theorem dX0_init_12 : decode cX0_init 12 = .ok (.newarray .int, 2) := by decide +kernel
theorem dX0_init_14 : decode cX0_init 14 = .ok (.putfield 15, 3) := by decide +kernel
theorem dX0_init_17 : decode cX0_init 17 = .ok (.aload_n 0, 1) := by decide +kernel
theorem dX0_init_18 : decode cX0_init 18 = .ok (.bipush 10, 2) := by decide +kernel
theorem dX0_init_20 : decode cX0_init 20 = .ok (.newarray .int, 2) := by decide +kernel
theorem dX0_init_22 : decode cX0_init 22 = .ok (.putfield 19, 3) := by decide +kernel
theorem dX0_init_25 : decode cX0_init 25 = .ok (.aload_n 0, 1) := by decide +kernel
theorem dX0_init_26 : decode cX0_init 26 = .ok (.bipush 10, 2) := by decide +kernel
theorem dX0_init_28 : decode cX0_init 28 = .ok (.anewarray 22, 3) := by decide +kernel
theorem dX0_init_31 : decode cX0_init 31 = .ok (.putfield 24, 3) := by decide +kernel
theorem dX0_init_34 : decode cX0_init 34 = .ok (.aload_n 0, 1) := by decide +kernel
theorem dX0_init_35 : decode cX0_init 35 = .ok (.bipush 10, 2) := by decide +kernel
theorem dX0_init_37 : decode cX0_init 37 = .ok (.anewarray 22, 3) := by decide +kernel
theorem dX0_init_40 : decode cX0_init 40 = .ok (.putfield 28, 3) := by decide +kernel
theorem dX0_init_43 : decode cX0_init 43 = .ok (.aload_n 0, 1) := by decide +kernel
theorem dX0_init_44 : decode cX0_init 44 = .ok (.bipush 10, 2) := by decide +kernel
theorem dX0_init_46 : decode cX0_init 46 = .ok (.newarray .int, 2) := by decide +kernel
theorem dX0_init_48 : decode cX0_init 48 = .ok (.putfield 31, 3) := by decide +kernel
theorem dX0_init_51 : decode cX0_init 51 = .ok (.aload_n 0, 1) := by decide +kernel
theorem dX0_init_52 : decode cX0_init 52 = .ok (.iconst 4, 1) := by decide +kernel
theorem dX0_init_53 : decode cX0_init 53 = .ok (.newarray .int, 2) := by decide +kernel
theorem dX0_init_55 : decode cX0_init 55 = .ok (.putfield 34, 3) := by decide +kernel
theorem dX0_init_58 : decode cX0_init 58 = .ok (.aload_n 0, 1) := by decide +kernel
theorem dX0_init_59 : decode cX0_init 59 = .ok (.iload_n 1, 1) := by decide +kernel
theorem dX0_init_60 : decode cX0_init 60 = .ok (.putfield 37, 3) := by decide +kernel
theorem dX0_init_63 : decode cX0_init 63 = .ok (.return_, 1) := by decide +kernel
theorem dX0_isDeafAt_0 : decode cX0_isDeafAt 0 = .ok (.iload_n 1, 1) := by decide +kernel
theorem dX0_isDeafAt_1 : decode cX0_isDeafAt 1 = .ok (.aload_n 0, 1) := by decide +kernel
theorem dX0_isDeafAt_2 : decode cX0_isDeafAt 2 = .ok (.getfield 40, 3) := by decide +kernel
theorem dX0_isDeafAt_5 : decode cX0_isDeafAt 5 = .ok (.if_icmp .ge 7, 3) := by decide +kernel
theorem dX0_isDeafAt_8 : decode cX0_isDeafAt 8 = .ok (.iconst 1, 1) := by decide +kernel
theorem dX0_isDeafAt_9 : decode cX0_isDeafAt 9 = .ok (.goto 4, 3) := by decide +kernel
theorem dX0_isDeafAt_12 : decode cX0_isDeafAt 12 = .ok (.iconst 0, 1) := by decide +kernel
theorem dX0_isDeafAt_13 : decode cX0_isDeafAt 13 = .ok (.ireturn, 1) := by decide +kernel
theorem dX0_disputedAtoms_0 : decode cX0_disputedAtoms 0 = .ok (.iconst 0, 1) := by decide +kernel
theorem dX0_disputedAtoms_1 : decode cX0_disputedAtoms 1 = .ok (.istore_n 1, 1) := by decide +kernel
theorem dX0_disputedAtoms_2 : decode cX0_disputedAtoms 2 = .ok (.iconst 0, 1) := by decide +kernel
theorem dX0_disputedAtoms_3 : decode cX0_disputedAtoms 3 = .ok (.istore_n 2, 1) := by decide +kernel
theorem dX0_disputedAtoms_4 : decode cX0_disputedAtoms 4 = .ok (.iload_n 2, 1) := by decide +kernel
theorem dX0_disputedAtoms_5 : decode cX0_disputedAtoms 5 = .ok (.iconst 4, 1) := by decide +kernel
theorem dX0_disputedAtoms_6 : decode cX0_disputedAtoms 6 = .ok (.if_icmp .ge 18, 3) := by decide +kernel
theorem dX0_disputedAtoms_9 : decode cX0_disputedAtoms 9 = .ok (.iload_n 1, 1) := by decide +kernel
theorem dX0_disputedAtoms_10 : decode cX0_disputedAtoms 10 = .ok (.aload_n 0, 1) := by decide +kernel
theorem dX0_disputedAtoms_11 : decode cX0_disputedAtoms 11 = .ok (.getfield 34, 3) := by decide +kernel
theorem dX0_disputedAtoms_14 : decode cX0_disputedAtoms 14 = .ok (.iload_n 2, 1) := by decide +kernel
theorem dX0_disputedAtoms_15 : decode cX0_disputedAtoms 15 = .ok (.iaload, 1) := by decide +kernel
theorem dX0_disputedAtoms_16 : decode cX0_disputedAtoms 16 = .ok (.ior, 1) := by decide +kernel
theorem dX0_disputedAtoms_17 : decode cX0_disputedAtoms 17 = .ok (.istore_n 1, 1) := by decide +kernel
theorem dX0_disputedAtoms_18 : decode cX0_disputedAtoms 18 = .ok (.iinc 2 1, 3) := by decide +kernel
theorem dX0_disputedAtoms_21 : decode cX0_disputedAtoms 21 = .ok (.goto (-17), 3) := by decide +kernel
theorem dX0_disputedAtoms_24 : decode cX0_disputedAtoms 24 = .ok (.iload_n 1, 1) := by decide +kernel
theorem dX0_disputedAtoms_25 : decode cX0_disputedAtoms 25 = .ok (.ireturn, 1) := by decide +kernel
theorem dX1_init_0 : decode cX1_init 0 = .ok (.aload_n 0, 1) := by decide +kernel
theorem dX1_init_1 : decode cX1_init 1 = .ok (.invokespecial 1, 3) := by decide +kernel
theorem dX1_init_4 : decode cX1_init 4 = .ok (.aload_n 0, 1) := by decide +kernel
theorem dX1_init_5 : decode cX1_init 5 = .ok (.iload_n 1, 1) := by decide +kernel
theorem dX1_init_6 : decode cX1_init 6 = .ok (.putfield 7, 3) := by decide +kernel
theorem dX1_init_9 : decode cX1_init 9 = .ok (.aload_n 0, 1) := by decide +kernel
theorem dX1_init_10 : decode cX1_init 10 = .ok (.iload_n 2, 1) := by decide +kernel
theorem dX1_init_11 : decode cX1_init 11 = .ok (.putfield 13, 3) := by decide +kernel
theorem dX1_init_14 : decode cX1_init 14 = .ok (.aload_n 0, 1) := by decide +kernel
theorem dX1_init_15 : decode cX1_init 15 = .ok (.iload_n 3, 1) := by decide +kernel
theorem dX1_init_16 : decode cX1_init 16 = .ok (.putfield 16, 3) := by decide +kernel
theorem dX1_init_19 : decode cX1_init 19 = .ok (.return_, 1) := by decide +kernel
theorem dX2_init_0 : decode cX2_init 0 = .ok (.aload_n 0, 1) := by decide +kernel
theorem dX2_init_1 : decode cX2_init 1 = .ok (.invokespecial 3, 3) := by decide +kernel
theorem dX2_init_4 : decode cX2_init 4 = .ok (.aload_n 0, 1) := by decide +kernel
theorem dX2_init_5 : decode cX2_init 5 = .ok (.iconst 0, 1) := by decide +kernel
theorem dX2_init_6 : decode cX2_init 6 = .ok (.putfield 9, 3) := by decide +kernel
theorem dX2_init_9 : decode cX2_init 9 = .ok (.aload_n 0, 1) := by decide +kernel
theorem dX2_init_10 : decode cX2_init 10 = .ok (.iconst (-1), 1) := by decide +kernel
theorem dX2_init_11 : decode cX2_init 11 = .ok (.putfield 15, 3) := by decide +kernel
theorem dX2_init_14 : decode cX2_init 14 = .ok (.aload_n 0, 1) := by decide +kernel
theorem dX2_init_15 : decode cX2_init 15 = .ok (.iconst 4, 1) := by decide +kernel
theorem dX2_init_16 : decode cX2_init 16 = .ok (.newarray .int, 2) := by decide +kernel
theorem dX2_init_18 : decode cX2_init 18 = .ok (.putfield 18, 3) := by decide +kernel
theorem dX2_init_21 : decode cX2_init 21 = .ok (.aload_n 0, 1) := by decide +kernel
theorem dX2_init_22 : decode cX2_init 22 = .ok (.iconst 4, 1) := by decide +kernel
theorem dX2_init_23 : decode cX2_init 23 = .ok (.newarray .int, 2) := by decide +kernel
theorem dX2_init_25 : decode cX2_init 25 = .ok (.putfield 22, 3) := by decide +kernel
theorem dX2_init_28 : decode cX2_init 28 = .ok (.aload_n 0, 1) := by decide +kernel
theorem dX2_init_29 : decode cX2_init 29 = .ok (.aload_n 1, 1) := by decide +kernel
theorem dX2_init_30 : decode cX2_init 30 = .ok (.putfield 25, 3) := by decide +kernel
theorem dX2_init_33 : decode cX2_init 33 = .ok (.aload_n 0, 1) := by decide +kernel
theorem dX2_init_34 : decode cX2_init 34 = .ok (.iload_n 2, 1) := by decide +kernel
theorem dX2_init_35 : decode cX2_init 35 = .ok (.putfield 29, 3) := by decide +kernel
theorem dX2_init_38 : decode cX2_init 38 = .ok (.aload_n 0, 1) := by decide +kernel
theorem dX2_init_39 : decode cX2_init 39 = .ok (.iload_n 3, 1) := by decide +kernel
theorem dX2_init_40 : decode cX2_init 40 = .ok (.putfield 32, 3) := by decide +kernel
theorem dX2_init_43 : decode cX2_init 43 = .ok (.aload_n 0, 1) := by decide +kernel
theorem dX2_init_44 : decode cX2_init 44 = .ok (.iload 4, 2) := by decide +kernel
theorem dX2_init_46 : decode cX2_init 46 = .ok (.putfield 35, 3) := by decide +kernel
theorem dX2_init_49 : decode cX2_init 49 = .ok (.aload_n 0, 1) := by decide +kernel
theorem dX2_init_50 : decode cX2_init 50 = .ok (.iload 5, 2) := by decide +kernel
theorem dX2_init_52 : decode cX2_init 52 = .ok (.putfield 38, 3) := by decide +kernel
theorem dX2_init_55 : decode cX2_init 55 = .ok (.aload_n 0, 1) := by decide +kernel
theorem dX2_init_56 : decode cX2_init 56 = .ok (.iload 6, 2) := by decide +kernel
theorem dX2_init_58 : decode cX2_init 58 = .ok (.putfield 41, 3) := by decide +kernel
theorem dX2_init_61 : decode cX2_init 61 = .ok (.aload_n 0, 1) := by decide +kernel
theorem dX2_init_62 : decode cX2_init 62 = .ok (.aload_n 1, 1) := by decide +kernel
theorem dX2_init_63 : decode cX2_init 63 = .ok (.getfield 44, 3) := by decide +kernel
theorem dX2_init_66 : decode cX2_init 66 = .ok (.putfield 49, 3) := by decide +kernel
theorem dX2_init_69 : decode cX2_init 69 = .ok (.return_, 1) := by decide +kernel
theorem dX2_isTo_0 : decode cX2_isTo 0 = .ok (.aload_n 0, 1) := by decide +kernel
theorem dX2_isTo_1 : decode cX2_isTo 1 = .ok (.getfield 38, 3) := by decide +kernel
theorem dX2_isTo_4 : decode cX2_isTo 4 = .ok (.aload_n 1, 1) := by decide +kernel
theorem dX2_isTo_5 : decode cX2_isTo 5 = .ok (.getfield 52, 3) := by decide +kernel
theorem dX2_isTo_8 : decode cX2_isTo 8 = .ok (.invokestatic 55, 3) := by decide +kernel
theorem dX2_isTo_11 : decode cX2_isTo 11 = .ok (.ireturn, 1) := by decide +kernel
theorem dX2_isToOneAlone_0 : decode cX2_isToOneAlone 0 = .ok (.aload_n 0, 1) := by decide +kernel
theorem dX2_isToOneAlone_1 : decode cX2_isToOneAlone 1 = .ok (.getfield 38, 3) := by decide +kernel
theorem dX2_isToOneAlone_4 : decode cX2_isToOneAlone 4 = .ok (.invokestatic 59, 3) := by decide +kernel
theorem dX2_isToOneAlone_7 : decode cX2_isToOneAlone 7 = .ok (.iconst 1, 1) := by decide +kernel
theorem dX2_isToOneAlone_8 : decode cX2_isToOneAlone 8 = .ok (.if_icmp .ne 7, 3) := by decide +kernel
theorem dX2_isToOneAlone_11 : decode cX2_isToOneAlone 11 = .ok (.iconst 1, 1) := by decide +kernel
theorem dX2_isToOneAlone_12 : decode cX2_isToOneAlone 12 = .ok (.goto 4, 3) := by decide +kernel
theorem dX2_isToOneAlone_15 : decode cX2_isToOneAlone 15 = .ok (.iconst 0, 1) := by decide +kernel
theorem dX2_isToOneAlone_16 : decode cX2_isToOneAlone 16 = .ok (.ireturn, 1) := by decide +kernel
theorem dX2_listener_0 : decode cX2_listener 0 = .ok (.iconst 0, 1) := by decide +kernel
theorem dX2_listener_1 : decode cX2_listener 1 = .ok (.istore_n 1, 1) := by decide +kernel
theorem dX2_listener_2 : decode cX2_listener 2 = .ok (.iload_n 1, 1) := by decide +kernel
theorem dX2_listener_3 : decode cX2_listener 3 = .ok (.iconst 4, 1) := by decide +kernel
theorem dX2_listener_4 : decode cX2_listener 4 = .ok (.if_icmp .ge 22, 3) := by decide +kernel
theorem dX2_listener_7 : decode cX2_listener 7 = .ok (.aload_n 0, 1) := by decide +kernel
theorem dX2_listener_8 : decode cX2_listener 8 = .ok (.getfield 38, 3) := by decide +kernel
theorem dX2_listener_11 : decode cX2_listener 11 = .ok (.iload_n 1, 1) := by decide +kernel
theorem dX2_listener_12 : decode cX2_listener 12 = .ok (.invokestatic 55, 3) := by decide +kernel
theorem dX2_listener_15 : decode cX2_listener 15 = .ok (.ifCond .eq 5, 3) := by decide +kernel
theorem dX2_listener_18 : decode cX2_listener 18 = .ok (.iload_n 1, 1) := by decide +kernel
theorem dX2_listener_19 : decode cX2_listener 19 = .ok (.ireturn, 1) := by decide +kernel
theorem dX2_listener_20 : decode cX2_listener 20 = .ok (.iinc 1 1, 3) := by decide +kernel
theorem dX2_listener_23 : decode cX2_listener 23 = .ok (.goto (-21), 3) := by decide +kernel
theorem dX2_listener_26 : decode cX2_listener 26 = .ok (.iconst (-1), 1) := by decide +kernel
theorem dX2_listener_27 : decode cX2_listener 27 = .ok (.ireturn, 1) := by decide +kernel
theorem dX2_takesForGiven_0 : decode cX2_takesForGiven 0 = .ok (.aload_n 0, 1) := by decide +kernel
theorem dX2_takesForGiven_1 : decode cX2_takesForGiven 1 = .ok (.getfield 29, 3) := by decide +kernel
theorem dX2_takesForGiven_4 : decode cX2_takesForGiven 4 = .ok (.ifCond .eq 11, 3) := by decide +kernel
theorem dX2_takesForGiven_7 : decode cX2_takesForGiven 7 = .ok (.aload_n 0, 1) := by decide +kernel
theorem dX2_takesForGiven_8 : decode cX2_takesForGiven 8 = .ok (.getfield 29, 3) := by decide +kernel
theorem dX2_takesForGiven_11 : decode cX2_takesForGiven 11 = .ok (.iconst 1, 1) := by decide +kernel
theorem dX2_takesForGiven_12 : decode cX2_takesForGiven 12 = .ok (.if_icmp .ne 17, 3) := by decide +kernel
theorem dX2_takesForGiven_15 : decode cX2_takesForGiven 15 = .ok (.aload_n 0, 1) := by decide +kernel
theorem dX2_takesForGiven_16 : decode cX2_takesForGiven 16 = .ok (.getfield 41, 3) := by decide +kernel
theorem dX2_takesForGiven_19 : decode cX2_takesForGiven 19 = .ok (.invokestatic 65, 3) := by decide +kernel
theorem dX2_takesForGiven_22 : decode cX2_takesForGiven 22 = .ok (.ifCond .eq 7, 3) := by decide +kernel
theorem dX2_takesForGiven_25 : decode cX2_takesForGiven 25 = .ok (.iconst 1, 1) := by decide +kernel
theorem dX2_takesForGiven_26 : decode cX2_takesForGiven 26 = .ok (.goto 4, 3) := by decide +kernel
theorem dX2_takesForGiven_29 : decode cX2_takesForGiven 29 = .ok (.iconst 0, 1) := by decide +kernel
theorem dX2_takesForGiven_30 : decode cX2_takesForGiven 30 = .ok (.ireturn, 1) := by decide +kernel
theorem dX2_isClaim_0 : decode cX2_isClaim 0 = .ok (.aload_n 0, 1) := by decide +kernel
theorem dX2_isClaim_1 : decode cX2_isClaim 1 = .ok (.getfield 9, 3) := by decide +kernel
theorem dX2_isClaim_4 : decode cX2_isClaim 4 = .ok (.iconst 1, 1) := by decide +kernel
theorem dX2_isClaim_5 : decode cX2_isClaim 5 = .ok (.if_icmp .ne 29, 3) := by decide +kernel
theorem dX2_isClaim_8 : decode cX2_isClaim 8 = .ok (.aload_n 0, 1) := by decide +kernel
theorem dX2_isClaim_9 : decode cX2_isClaim 9 = .ok (.getfield 29, 3) := by decide +kernel
theorem dX2_isClaim_12 : decode cX2_isClaim 12 = .ok (.ifCond .eq 18, 3) := by decide +kernel
theorem dX2_isClaim_15 : decode cX2_isClaim 15 = .ok (.aload_n 0, 1) := by decide +kernel
theorem dX2_isClaim_16 : decode cX2_isClaim 16 = .ok (.getfield 29, 3) := by decide +kernel
theorem dX2_isClaim_19 : decode cX2_isClaim 19 = .ok (.iconst 2, 1) := by decide +kernel
theorem dX2_isClaim_20 : decode cX2_isClaim 20 = .ok (.if_icmp .ne 14, 3) := by decide +kernel
theorem dX2_isClaim_23 : decode cX2_isClaim 23 = .ok (.aload_n 0, 1) := by decide +kernel
theorem dX2_isClaim_24 : decode cX2_isClaim 24 = .ok (.getfield 35, 3) := by decide +kernel
theorem dX2_isClaim_27 : decode cX2_isClaim 27 = .ok (.ifCond .eq 7, 3) := by decide +kernel
theorem dX2_isClaim_30 : decode cX2_isClaim 30 = .ok (.iconst 1, 1) := by decide +kernel
theorem dX2_isClaim_31 : decode cX2_isClaim 31 = .ok (.goto 4, 3) := by decide +kernel
theorem dX2_isClaim_34 : decode cX2_isClaim 34 = .ok (.iconst 0, 1) := by decide +kernel
theorem dX2_isClaim_35 : decode cX2_isClaim 35 = .ok (.ireturn, 1) := by decide +kernel
theorem dX2_hasReachedSomebody_0 : decode cX2_hasReachedSomebody 0 = .ok (.iconst 0, 1) := by decide +kernel
theorem dX2_hasReachedSomebody_1 : decode cX2_hasReachedSomebody 1 = .ok (.istore_n 2, 1) := by decide +kernel
theorem dX2_hasReachedSomebody_2 : decode cX2_hasReachedSomebody 2 = .ok (.iload_n 2, 1) := by decide +kernel
theorem dX2_hasReachedSomebody_3 : decode cX2_hasReachedSomebody 3 = .ok (.iconst 4, 1) := by decide +kernel
theorem dX2_hasReachedSomebody_4 : decode cX2_hasReachedSomebody 4 = .ok (.if_icmp .ge 21, 3) := by decide +kernel
theorem dX2_hasReachedSomebody_7 : decode cX2_hasReachedSomebody 7 = .ok (.aload_n 0, 1) := by decide +kernel
theorem dX2_hasReachedSomebody_8 : decode cX2_hasReachedSomebody 8 = .ok (.getfield 18, 3) := by decide +kernel
theorem dX2_hasReachedSomebody_11 : decode cX2_hasReachedSomebody 11 = .ok (.iload_n 2, 1) := by decide +kernel
theorem dX2_hasReachedSomebody_12 : decode cX2_hasReachedSomebody 12 = .ok (.iaload, 1) := by decide +kernel
theorem dX2_hasReachedSomebody_13 : decode cX2_hasReachedSomebody 13 = .ok (.iload_n 1, 1) := by decide +kernel
theorem dX2_hasReachedSomebody_14 : decode cX2_hasReachedSomebody 14 = .ok (.if_icmp .ne 5, 3) := by decide +kernel
theorem dX2_hasReachedSomebody_17 : decode cX2_hasReachedSomebody 17 = .ok (.iconst 1, 1) := by decide +kernel
theorem dX2_hasReachedSomebody_18 : decode cX2_hasReachedSomebody 18 = .ok (.ireturn, 1) := by decide +kernel
theorem dX2_hasReachedSomebody_19 : decode cX2_hasReachedSomebody 19 = .ok (.iinc 2 1, 3) := by decide +kernel
theorem dX2_hasReachedSomebody_22 : decode cX2_hasReachedSomebody 22 = .ok (.goto (-20), 3) := by decide +kernel
theorem dX2_hasReachedSomebody_25 : decode cX2_hasReachedSomebody 25 = .ok (.iconst 0, 1) := by decide +kernel
theorem dX2_hasReachedSomebody_26 : decode cX2_hasReachedSomebody 26 = .ok (.ireturn, 1) := by decide +kernel
theorem dX3_init_0 : decode cX3_init 0 = .ok (.aload_n 0, 1) := by decide +kernel
theorem dX3_init_1 : decode cX3_init 1 = .ok (.invokespecial 1, 3) := by decide +kernel
theorem dX3_init_4 : decode cX3_init 4 = .ok (.aload_n 0, 1) := by decide +kernel
theorem dX3_init_5 : decode cX3_init 5 = .ok (.iconst 4, 1) := by decide +kernel
theorem dX3_init_6 : decode cX3_init 6 = .ok (.anewarray 9, 3) := by decide +kernel
theorem dX3_init_9 : decode cX3_init 9 = .ok (.putfield 11, 3) := by decide +kernel
theorem dX3_init_12 : decode cX3_init 12 = .ok (.aload_n 0, 1) := by decide +kernel
theorem dX3_init_13 : decode cX3_init 13 = .ok (.bipush 8, 2) := by decide +kernel
theorem dX3_init_15 : decode cX3_init 15 = .ok (.newarray .int, 2) := by decide +kernel
theorem dX3_init_17 : decode cX3_init 17 = .ok (.putfield 15, 3) := by decide +kernel
theorem dX3_init_20 : decode cX3_init 20 = .ok (.aload_n 0, 1) := by decide +kernel
theorem dX3_init_21 : decode cX3_init 21 = .ok (.new 19, 3) := by decide +kernel
theorem dX3_init_24 : decode cX3_init 24 = .ok (.dup, 1) := by decide +kernel
theorem dX3_init_25 : decode cX3_init 25 = .ok (.invokespecial 21, 3) := by decide +kernel
theorem dX3_init_28 : decode cX3_init 28 = .ok (.putfield 22, 3) := by decide +kernel
theorem dX3_init_31 : decode cX3_init 31 = .ok (.aload_n 0, 1) := by decide +kernel
theorem dX3_init_32 : decode cX3_init 32 = .ok (.new 19, 3) := by decide +kernel
theorem dX3_init_35 : decode cX3_init 35 = .ok (.dup, 1) := by decide +kernel
theorem dX3_init_36 : decode cX3_init 36 = .ok (.invokespecial 21, 3) := by decide +kernel
theorem dX3_init_39 : decode cX3_init 39 = .ok (.putfield 26, 3) := by decide +kernel
theorem dX3_init_42 : decode cX3_init 42 = .ok (.aload_n 0, 1) := by decide +kernel
theorem dX3_init_43 : decode cX3_init 43 = .ok (.new 19, 3) := by decide +kernel
theorem dX3_init_46 : decode cX3_init 46 = .ok (.dup, 1) := by decide +kernel
theorem dX3_init_47 : decode cX3_init 47 = .ok (.invokespecial 21, 3) := by decide +kernel
theorem dX3_init_50 : decode cX3_init 50 = .ok (.putfield 29, 3) := by decide +kernel
theorem dX3_init_53 : decode cX3_init 53 = .ok (.aload_n 0, 1) := by decide +kernel
theorem dX3_init_54 : decode cX3_init 54 = .ok (.iconst (-1), 1) := by decide +kernel
theorem dX3_init_55 : decode cX3_init 55 = .ok (.putfield 32, 3) := by decide +kernel
theorem dX3_init_58 : decode cX3_init 58 = .ok (.iconst 0, 1) := by decide +kernel
theorem dX3_init_59 : decode cX3_init 59 = .ok (.istore_n 1, 1) := by decide +kernel
theorem dX3_init_60 : decode cX3_init 60 = .ok (.iload_n 1, 1) := by decide +kernel
theorem dX3_init_61 : decode cX3_init 61 = .ok (.iconst 4, 1) := by decide +kernel
theorem dX3_init_62 : decode cX3_init 62 = .ok (.if_icmp .ge 23, 3) := by decide +kernel
theorem dX3_init_65 : decode cX3_init 65 = .ok (.aload_n 0, 1) := by decide +kernel
theorem dX3_init_66 : decode cX3_init 66 = .ok (.getfield 11, 3) := by decide +kernel
theorem dX3_init_69 : decode cX3_init 69 = .ok (.iload_n 1, 1) := by decide +kernel
theorem dX3_init_70 : decode cX3_init 70 = .ok (.new 9, 3) := by decide +kernel
theorem dX3_init_73 : decode cX3_init 73 = .ok (.dup, 1) := by decide +kernel
theorem dX3_init_74 : decode cX3_init 74 = .ok (.iload_n 1, 1) := by decide +kernel
theorem dX3_init_75 : decode cX3_init 75 = .ok (.invokespecial 36, 3) := by decide +kernel
theorem dX3_init_78 : decode cX3_init 78 = .ok (.aastore, 1) := by decide +kernel
theorem dX3_init_79 : decode cX3_init 79 = .ok (.iinc 1 1, 3) := by decide +kernel
theorem dX3_init_82 : decode cX3_init 82 = .ok (.goto (-22), 3) := by decide +kernel
theorem dX3_init_85 : decode cX3_init 85 = .ok (.iconst 0, 1) := by decide +kernel
theorem dX3_init_86 : decode cX3_init 86 = .ok (.istore_n 1, 1) := by decide +kernel
theorem dX3_init_87 : decode cX3_init 87 = .ok (.iload_n 1, 1) := by decide +kernel
theorem dX3_init_88 : decode cX3_init 88 = .ok (.bipush 8, 2) := by decide +kernel
theorem dX3_init_90 : decode cX3_init 90 = .ok (.if_icmp .ge 16, 3) := by decide +kernel
theorem dX3_init_93 : decode cX3_init 93 = .ok (.aload_n 0, 1) := by decide +kernel
theorem dX3_init_94 : decode cX3_init 94 = .ok (.getfield 15, 3) := by decide +kernel
theorem dX3_init_97 : decode cX3_init 97 = .ok (.iload_n 1, 1) := by decide +kernel
theorem dX3_init_98 : decode cX3_init 98 = .ok (.iconst (-1), 1) := by decide +kernel
theorem dX3_init_99 : decode cX3_init 99 = .ok (.iastore, 1) := by decide +kernel
theorem dX3_init_100 : decode cX3_init 100 = .ok (.iinc 1 1, 3) := by decide +kernel
theorem dX3_init_103 : decode cX3_init 103 = .ok (.goto (-16), 3) := by decide +kernel
theorem dX3_init_106 : decode cX3_init 106 = .ok (.return_, 1) := by decide +kernel
theorem dX3_power_0 : decode cX3_power 0 = .ok (.iload_n 1, 1) := by decide +kernel
theorem dX3_power_1 : decode cX3_power 1 = .ok (.invokestatic 39, 3) := by decide +kernel
theorem dX3_power_4 : decode cX3_power 4 = .ok (.iload_n 2, 1) := by decide +kernel
theorem dX3_power_5 : decode cX3_power 5 = .ok (.iconst 0, 1) := by decide +kernel
theorem dX3_power_6 : decode cX3_power 6 = .ok (.bipush 9, 2) := by decide +kernel
theorem dX3_power_8 : decode cX3_power 8 = .ok (.invokestatic 42, 3) := by decide +kernel
theorem dX3_power_11 : decode cX3_power 11 = .ok (.aload_n 0, 1) := by decide +kernel
theorem dX3_power_12 : decode cX3_power 12 = .ok (.getfield 11, 3) := by decide +kernel
theorem dX3_power_15 : decode cX3_power 15 = .ok (.iload_n 1, 1) := by decide +kernel
theorem dX3_power_16 : decode cX3_power 16 = .ok (.aaload, 1) := by decide +kernel
theorem dX3_power_17 : decode cX3_power 17 = .ok (.getfield 46, 3) := by decide +kernel
theorem dX3_power_20 : decode cX3_power 20 = .ok (.istore_n 3, 1) := by decide +kernel
theorem dX3_power_21 : decode cX3_power 21 = .ok (.aload_n 0, 1) := by decide +kernel
theorem dX3_power_22 : decode cX3_power 22 = .ok (.getfield 11, 3) := by decide +kernel
theorem dX3_power_25 : decode cX3_power 25 = .ok (.iload_n 1, 1) := by decide +kernel
theorem dX3_power_26 : decode cX3_power 26 = .ok (.aaload, 1) := by decide +kernel
theorem dX3_power_27 : decode cX3_power 27 = .ok (.iload_n 2, 1) := by decide +kernel
theorem dX3_power_28 : decode cX3_power 28 = .ok (.putfield 46, 3) := by decide +kernel
theorem dX3_power_31 : decode cX3_power 31 = .ok (.iload_n 3, 1) := by decide +kernel
theorem dX3_power_32 : decode cX3_power 32 = .ok (.ireturn, 1) := by decide +kernel
theorem dX3_knows_0 : decode cX3_knows 0 = .ok (.iload_n 1, 1) := by decide +kernel
theorem dX3_knows_1 : decode cX3_knows 1 = .ok (.invokestatic 39, 3) := by decide +kernel
theorem dX3_knows_4 : decode cX3_knows 4 = .ok (.iload_n 2, 1) := by decide +kernel
theorem dX3_knows_5 : decode cX3_knows 5 = .ok (.iconst 1, 1) := by decide +kernel
theorem dX3_knows_6 : decode cX3_knows 6 = .ok (.bipush 7, 2) := by decide +kernel
theorem dX3_knows_8 : decode cX3_knows 8 = .ok (.invokestatic 42, 3) := by decide +kernel
theorem dX3_knows_11 : decode cX3_knows 11 = .ok (.iload_n 3, 1) := by decide +kernel
theorem dX3_knows_12 : decode cX3_knows 12 = .ok (.iconst 0, 1) := by decide +kernel
theorem dX3_knows_13 : decode cX3_knows 13 = .ok (.iconst 2, 1) := by decide +kernel
theorem dX3_knows_14 : decode cX3_knows 14 = .ok (.invokestatic 42, 3) := by decide +kernel
theorem dX3_knows_17 : decode cX3_knows 17 = .ok (.iload_n 2, 1) := by decide +kernel
theorem dX3_knows_18 : decode cX3_knows 18 = .ok (.iload_n 3, 1) := by decide +kernel
theorem dX3_knows_19 : decode cX3_knows 19 = .ok (.invokestatic 49, 3) := by decide +kernel
theorem dX3_knows_22 : decode cX3_knows 22 = .ok (.ifCond .ne 13, 3) := by decide +kernel
theorem dX3_knows_25 : decode cX3_knows 25 = .ok (.new 53, 3) := by decide +kernel
theorem dX3_knows_28 : decode cX3_knows 28 = .ok (.dup, 1) := by decide +kernel
theorem dX3_knows_29 : decode cX3_knows 29 = .ok (.ldc 55, 2) := by decide +kernel
theorem dX3_knows_31 : decode cX3_knows 31 = .ok (.invokespecial 57, 3) := by decide +kernel
theorem dX3_knows_34 : decode cX3_knows 34 = .ok (.athrow, 1) := by decide +kernel
theorem dX3_knows_35 : decode cX3_knows 35 = .ok (.aload_n 0, 1) := by decide +kernel
theorem dX3_knows_36 : decode cX3_knows 36 = .ok (.getfield 11, 3) := by decide +kernel
theorem dX3_knows_39 : decode cX3_knows 39 = .ok (.iload_n 1, 1) := by decide +kernel
theorem dX3_knows_40 : decode cX3_knows 40 = .ok (.aaload, 1) := by decide +kernel
theorem dX3_knows_41 : decode cX3_knows 41 = .ok (.getfield 60, 3) := by decide +kernel
theorem dX3_knows_44 : decode cX3_knows 44 = .ok (.istore 5, 2) := by decide +kernel
theorem dX3_knows_46 : decode cX3_knows 46 = .ok (.aload_n 0, 1) := by decide +kernel
theorem dX3_knows_47 : decode cX3_knows 47 = .ok (.getfield 11, 3) := by decide +kernel
theorem dX3_knows_50 : decode cX3_knows 50 = .ok (.iload_n 1, 1) := by decide +kernel
theorem dX3_knows_51 : decode cX3_knows 51 = .ok (.aaload, 1) := by decide +kernel
theorem dX3_knows_52 : decode cX3_knows 52 = .ok (.iload_n 2, 1) := by decide +kernel
theorem dX3_knows_53 : decode cX3_knows 53 = .ok (.putfield 60, 3) := by decide +kernel
theorem dX3_knows_56 : decode cX3_knows 56 = .ok (.aload_n 0, 1) := by decide +kernel
theorem dX3_knows_57 : decode cX3_knows 57 = .ok (.getfield 11, 3) := by decide +kernel
theorem dX3_knows_60 : decode cX3_knows 60 = .ok (.iload_n 1, 1) := by decide +kernel
theorem dX3_knows_61 : decode cX3_knows 61 = .ok (.aaload, 1) := by decide +kernel
theorem dX3_knows_62 : decode cX3_knows 62 = .ok (.iload_n 3, 1) := by decide +kernel
theorem dX3_knows_63 : decode cX3_knows 63 = .ok (.putfield 63, 3) := by decide +kernel
theorem dX3_knows_66 : decode cX3_knows 66 = .ok (.aload_n 0, 1) := by decide +kernel
theorem dX3_knows_67 : decode cX3_knows 67 = .ok (.getfield 11, 3) := by decide +kernel
theorem dX3_knows_70 : decode cX3_knows 70 = .ok (.iload_n 1, 1) := by decide +kernel
theorem dX3_knows_71 : decode cX3_knows 71 = .ok (.aaload, 1) := by decide +kernel
theorem dX3_knows_72 : decode cX3_knows 72 = .ok (.iload 4, 2) := by decide +kernel
theorem dX3_knows_74 : decode cX3_knows 74 = .ok (.putfield 66, 3) := by decide +kernel
theorem dX3_knows_77 : decode cX3_knows 77 = .ok (.iload 5, 2) := by decide +kernel
theorem dX3_knows_79 : decode cX3_knows 79 = .ok (.ireturn, 1) := by decide +kernel
theorem dX3_believe_0 : decode cX3_believe 0 = .ok (.iload_n 1, 1) := by decide +kernel
theorem dX3_believe_1 : decode cX3_believe 1 = .ok (.invokestatic 39, 3) := by decide +kernel
theorem dX3_believe_4 : decode cX3_believe 4 = .ok (.iload_n 2, 1) := by decide +kernel
theorem dX3_believe_5 : decode cX3_believe 5 = .ok (.invokestatic 70, 3) := by decide +kernel
theorem dX3_believe_8 : decode cX3_believe 8 = .ok (.iload_n 3, 1) := by decide +kernel
theorem dX3_believe_9 : decode cX3_believe 9 = .ok (.iconst 0, 1) := by decide +kernel
theorem dX3_believe_10 : decode cX3_believe 10 = .ok (.iconst 2, 1) := by decide +kernel
theorem dX3_believe_11 : decode cX3_believe 11 = .ok (.invokestatic 42, 3) := by decide +kernel
theorem dX3_believe_14 : decode cX3_believe 14 = .ok (.aload_n 0, 1) := by decide +kernel
theorem dX3_believe_15 : decode cX3_believe 15 = .ok (.getfield 11, 3) := by decide +kernel
theorem dX3_believe_18 : decode cX3_believe 18 = .ok (.iload_n 1, 1) := by decide +kernel
theorem dX3_believe_19 : decode cX3_believe 19 = .ok (.aaload, 1) := by decide +kernel
theorem dX3_believe_20 : decode cX3_believe 20 = .ok (.getfield 73, 3) := by decide +kernel
theorem dX3_believe_23 : decode cX3_believe 23 = .ok (.iload_n 2, 1) := by decide +kernel
theorem dX3_believe_24 : decode cX3_believe 24 = .ok (.iaload, 1) := by decide +kernel
theorem dX3_believe_25 : decode cX3_believe 25 = .ok (.istore 4, 2) := by decide +kernel
theorem dX3_believe_27 : decode cX3_believe 27 = .ok (.aload_n 0, 1) := by decide +kernel
theorem dX3_believe_28 : decode cX3_believe 28 = .ok (.getfield 11, 3) := by decide +kernel
theorem dX3_believe_31 : decode cX3_believe 31 = .ok (.iload_n 1, 1) := by decide +kernel
theorem dX3_believe_32 : decode cX3_believe 32 = .ok (.aaload, 1) := by decide +kernel
theorem dX3_believe_33 : decode cX3_believe 33 = .ok (.getfield 73, 3) := by decide +kernel
theorem dX3_believe_36 : decode cX3_believe 36 = .ok (.iload_n 2, 1) := by decide +kernel
theorem dX3_believe_37 : decode cX3_believe 37 = .ok (.iload_n 3, 1) := by decide +kernel
theorem dX3_believe_38 : decode cX3_believe 38 = .ok (.iastore, 1) := by decide +kernel
theorem dX3_believe_39 : decode cX3_believe 39 = .ok (.iload 4, 2) := by decide +kernel
theorem dX3_believe_41 : decode cX3_believe 41 = .ok (.ireturn, 1) := by decide +kernel
theorem dX3_deafen_0 : decode cX3_deafen 0 = .ok (.iload_n 1, 1) := by decide +kernel
theorem dX3_deafen_1 : decode cX3_deafen 1 = .ok (.invokestatic 39, 3) := by decide +kernel
theorem dX3_deafen_4 : decode cX3_deafen 4 = .ok (.iload_n 2, 1) := by decide +kernel
theorem dX3_deafen_5 : decode cX3_deafen 5 = .ok (.iconst 0, 1) := by decide +kernel
theorem dX3_deafen_6 : decode cX3_deafen 6 = .ok (.bipush 20, 2) := by decide +kernel
theorem dX3_deafen_8 : decode cX3_deafen 8 = .ok (.invokestatic 42, 3) := by decide +kernel
theorem dX3_deafen_11 : decode cX3_deafen 11 = .ok (.aload_n 0, 1) := by decide +kernel
theorem dX3_deafen_12 : decode cX3_deafen 12 = .ok (.getfield 11, 3) := by decide +kernel
theorem dX3_deafen_15 : decode cX3_deafen 15 = .ok (.iload_n 1, 1) := by decide +kernel
theorem dX3_deafen_16 : decode cX3_deafen 16 = .ok (.aaload, 1) := by decide +kernel
theorem dX3_deafen_17 : decode cX3_deafen 17 = .ok (.aload_n 0, 1) := by decide +kernel
theorem dX3_deafen_18 : decode cX3_deafen 18 = .ok (.getfield 76, 3) := by decide +kernel
theorem dX3_deafen_21 : decode cX3_deafen 21 = .ok (.iload_n 2, 1) := by decide +kernel
theorem dX3_deafen_22 : decode cX3_deafen 22 = .ok (.iadd, 1) := by decide +kernel
theorem dX3_deafen_23 : decode cX3_deafen 23 = .ok (.putfield 79, 3) := by decide +kernel
theorem dX3_deafen_26 : decode cX3_deafen 26 = .ok (.aload_n 0, 1) := by decide +kernel
theorem dX3_deafen_27 : decode cX3_deafen 27 = .ok (.getfield 11, 3) := by decide +kernel
theorem dX3_deafen_30 : decode cX3_deafen 30 = .ok (.iload_n 1, 1) := by decide +kernel
theorem dX3_deafen_31 : decode cX3_deafen 31 = .ok (.aaload, 1) := by decide +kernel
theorem dX3_deafen_32 : decode cX3_deafen 32 = .ok (.getfield 79, 3) := by decide +kernel
theorem dX3_deafen_35 : decode cX3_deafen 35 = .ok (.ireturn, 1) := by decide +kernel
theorem dX3_give_0 : decode cX3_give 0 = .ok (.iload_n 1, 1) := by decide +kernel
theorem dX3_give_1 : decode cX3_give 1 = .ok (.invokestatic 82, 3) := by decide +kernel
theorem dX3_give_4 : decode cX3_give 4 = .ok (.iload_n 2, 1) := by decide +kernel
theorem dX3_give_5 : decode cX3_give 5 = .ok (.iconst (-1), 1) := by decide +kernel
theorem dX3_give_6 : decode cX3_give 6 = .ok (.if_icmp .eq 7, 3) := by decide +kernel
theorem dX3_give_9 : decode cX3_give 9 = .ok (.iload_n 2, 1) := by decide +kernel
theorem dX3_give_10 : decode cX3_give 10 = .ok (.invokestatic 39, 3) := by decide +kernel
theorem dX3_give_13 : decode cX3_give 13 = .ok (.aload_n 0, 1) := by decide +kernel
theorem dX3_give_14 : decode cX3_give 14 = .ok (.getfield 15, 3) := by decide +kernel
theorem dX3_give_17 : decode cX3_give 17 = .ok (.iload_n 1, 1) := by decide +kernel
theorem dX3_give_18 : decode cX3_give 18 = .ok (.iaload, 1) := by decide +kernel
theorem dX3_give_19 : decode cX3_give 19 = .ok (.istore_n 3, 1) := by decide +kernel
theorem dX3_give_20 : decode cX3_give 20 = .ok (.aload_n 0, 1) := by decide +kernel
theorem dX3_give_21 : decode cX3_give 21 = .ok (.getfield 15, 3) := by decide +kernel
theorem dX3_give_24 : decode cX3_give 24 = .ok (.iload_n 1, 1) := by decide +kernel
theorem dX3_give_25 : decode cX3_give 25 = .ok (.iload_n 2, 1) := by decide +kernel
theorem dX3_give_26 : decode cX3_give 26 = .ok (.iastore, 1) := by decide +kernel
theorem dX3_give_27 : decode cX3_give 27 = .ok (.iload_n 3, 1) := by decide +kernel
theorem dX3_give_28 : decode cX3_give 28 = .ok (.ireturn, 1) := by decide +kernel
theorem dX3_strict_0 : decode cX3_strict 0 = .ok (.aload_n 0, 1) := by decide +kernel
theorem dX3_strict_1 : decode cX3_strict 1 = .ok (.getfield 85, 3) := by decide +kernel
theorem dX3_strict_4 : decode cX3_strict 4 = .ok (.istore_n 2, 1) := by decide +kernel
theorem dX3_strict_5 : decode cX3_strict 5 = .ok (.aload_n 0, 1) := by decide +kernel
theorem dX3_strict_6 : decode cX3_strict 6 = .ok (.iload_n 1, 1) := by decide +kernel
theorem dX3_strict_7 : decode cX3_strict 7 = .ok (.putfield 85, 3) := by decide +kernel
theorem dX3_strict_10 : decode cX3_strict 10 = .ok (.iload_n 2, 1) := by decide +kernel
theorem dX3_strict_11 : decode cX3_strict 11 = .ok (.ireturn, 1) := by decide +kernel
theorem dX3_can_0 : decode cX3_can 0 = .ok (.aload_n 0, 1) := by decide +kernel
theorem dX3_can_1 : decode cX3_can 1 = .ok (.aload_n 0, 1) := by decide +kernel
theorem dX3_can_2 : decode cX3_can 2 = .ok (.iload_n 1, 1) := by decide +kernel
theorem dX3_can_3 : decode cX3_can 3 = .ok (.iload_n 2, 1) := by decide +kernel
theorem dX3_can_4 : decode cX3_can 4 = .ok (.iload_n 3, 1) := by decide +kernel
theorem dX3_can_5 : decode cX3_can 5 = .ok (.iload 4, 2) := by decide +kernel
theorem dX3_can_7 : decode cX3_can 7 = .ok (.iload 5, 2) := by decide +kernel
theorem dX3_can_9 : decode cX3_can 9 = .ok (.iload 6, 2) := by decide +kernel
theorem dX3_can_11 : decode cX3_can 11 = .ok (.invokevirtual 88, 3) := by decide +kernel
theorem dX3_can_14 : decode cX3_can 14 = .ok (.invokevirtual 92, 3) := by decide +kernel
theorem dX3_can_17 : decode cX3_can 17 = .ok (.ireturn, 1) := by decide +kernel
theorem dX3_say_0 : decode cX3_say 0 = .ok (.aload_n 0, 1) := by decide +kernel
theorem dX3_say_1 : decode cX3_say 1 = .ok (.iload_n 1, 1) := by decide +kernel
theorem dX3_say_2 : decode cX3_say 2 = .ok (.iload_n 2, 1) := by decide +kernel
theorem dX3_say_3 : decode cX3_say 3 = .ok (.iload_n 3, 1) := by decide +kernel
theorem dX3_say_4 : decode cX3_say 4 = .ok (.iload 4, 2) := by decide +kernel
theorem dX3_say_6 : decode cX3_say 6 = .ok (.iload 5, 2) := by decide +kernel
theorem dX3_say_8 : decode cX3_say 8 = .ok (.iload 6, 2) := by decide +kernel
theorem dX3_say_10 : decode cX3_say 10 = .ok (.invokevirtual 88, 3) := by decide +kernel
theorem dX3_say_13 : decode cX3_say 13 = .ok (.astore 7, 2) := by decide +kernel
theorem dX3_say_15 : decode cX3_say 15 = .ok (.aload_n 0, 1) := by decide +kernel
theorem dX3_say_16 : decode cX3_say 16 = .ok (.aload 7, 2) := by decide +kernel
theorem dX3_say_18 : decode cX3_say 18 = .ok (.invokevirtual 92, 3) := by decide +kernel
theorem dX3_say_21 : decode cX3_say 21 = .ok (.ifCond .ne 13, 3) := by decide +kernel
theorem dX3_say_24 : decode cX3_say 24 = .ok (.new 96, 3) := by decide +kernel
theorem dX3_say_27 : decode cX3_say 27 = .ok (.dup, 1) := by decide +kernel
theorem dX3_say_28 : decode cX3_say 28 = .ok (.ldc 98, 2) := by decide +kernel
theorem dX3_say_30 : decode cX3_say 30 = .ok (.invokespecial 100, 3) := by decide +kernel
theorem dX3_say_33 : decode cX3_say 33 = .ok (.athrow, 1) := by decide +kernel
theorem dX3_say_34 : decode cX3_say 34 = .ok (.aload_n 0, 1) := by decide +kernel
theorem dX3_say_35 : decode cX3_say 35 = .ok (.getfield 22, 3) := by decide +kernel
theorem dX3_say_38 : decode cX3_say 38 = .ok (.aload 7, 2) := by decide +kernel
theorem dX3_say_40 : decode cX3_say 40 = .ok (.invokevirtual 101, 3) := by decide +kernel
theorem dX3_say_43 : decode cX3_say 43 = .ok (.pop, 1) := by decide +kernel
theorem dX3_say_44 : decode cX3_say 44 = .ok (.aload 7, 2) := by decide +kernel
theorem dX3_say_46 : decode cX3_say 46 = .ok (.getfield 105, 3) := by decide +kernel
theorem dX3_say_49 : decode cX3_say 49 = .ok (.aload 7, 2) := by decide +kernel
theorem dX3_say_51 : decode cX3_say 51 = .ok (.putfield 111, 3) := by decide +kernel
theorem dX3_say_54 : decode cX3_say 54 = .ok (.aload 7, 2) := by decide +kernel
theorem dX3_say_56 : decode cX3_say 56 = .ok (.getfield 115, 3) := by decide +kernel
theorem dX3_say_59 : decode cX3_say 59 = .ok (.ireturn, 1) := by decide +kernel
theorem dX3_tick_0 : decode cX3_tick 0 = .ok (.iload_n 1, 1) := by decide +kernel
theorem dX3_tick_1 : decode cX3_tick 1 = .ok (.iconst 1, 1) := by decide +kernel
theorem dX3_tick_2 : decode cX3_tick 2 = .ok (.bipush 20, 2) := by decide +kernel
theorem dX3_tick_4 : decode cX3_tick 4 = .ok (.invokestatic 42, 3) := by decide +kernel
theorem dX3_tick_7 : decode cX3_tick 7 = .ok (.iconst 0, 1) := by decide +kernel
theorem dX3_tick_8 : decode cX3_tick 8 = .ok (.istore_n 2, 1) := by decide +kernel
theorem dX3_tick_9 : decode cX3_tick 9 = .ok (.iload_n 2, 1) := by decide +kernel
theorem dX3_tick_10 : decode cX3_tick 10 = .ok (.iload_n 1, 1) := by decide +kernel
theorem dX3_tick_11 : decode cX3_tick 11 = .ok (.if_icmp .ge 64, 3) := by decide +kernel
theorem dX3_tick_14 : decode cX3_tick 14 = .ok (.aload_n 0, 1) := by decide +kernel
theorem dX3_tick_15 : decode cX3_tick 15 = .ok (.invokevirtual 118, 3) := by decide +kernel
theorem dX3_tick_18 : decode cX3_tick 18 = .ok (.aload_n 0, 1) := by decide +kernel
theorem dX3_tick_19 : decode cX3_tick 19 = .ok (.invokevirtual 121, 3) := by decide +kernel
theorem dX3_tick_22 : decode cX3_tick 22 = .ok (.astore_n 3, 1) := by decide +kernel
theorem dX3_tick_23 : decode cX3_tick 23 = .ok (.aload_n 3, 1) := by decide +kernel
theorem dX3_tick_24 : decode cX3_tick 24 = .ok (.ifnull 8, 3) := by decide +kernel
theorem dX3_tick_27 : decode cX3_tick 27 = .ok (.aload_n 0, 1) := by decide +kernel
theorem dX3_tick_28 : decode cX3_tick 28 = .ok (.aload_n 3, 1) := by decide +kernel
theorem dX3_tick_29 : decode cX3_tick 29 = .ok (.invokevirtual 125, 3) := by decide +kernel
theorem dX3_tick_32 : decode cX3_tick 32 = .ok (.aload_n 0, 1) := by decide +kernel
theorem dX3_tick_33 : decode cX3_tick 33 = .ok (.invokevirtual 129, 3) := by decide +kernel
theorem dX3_tick_36 : decode cX3_tick 36 = .ok (.aload_n 0, 1) := by decide +kernel
theorem dX3_tick_37 : decode cX3_tick 37 = .ok (.dup, 1) := by decide +kernel
theorem dX3_tick_38 : decode cX3_tick 38 = .ok (.getfield 76, 3) := by decide +kernel
theorem dX3_tick_41 : decode cX3_tick 41 = .ok (.iconst 1, 1) := by decide +kernel
theorem dX3_tick_42 : decode cX3_tick 42 = .ok (.iadd, 1) := by decide +kernel
theorem dX3_tick_43 : decode cX3_tick 43 = .ok (.putfield 76, 3) := by decide +kernel
theorem dX3_tick_46 : decode cX3_tick 46 = .ok (.aload_n 0, 1) := by decide +kernel
theorem dX3_tick_47 : decode cX3_tick 47 = .ok (.invokevirtual 132, 3) := by decide +kernel
theorem dX3_tick_50 : decode cX3_tick 50 = .ok (.aload_n 0, 1) := by decide +kernel
theorem dX3_tick_51 : decode cX3_tick 51 = .ok (.invokevirtual 135, 3) := by decide +kernel
theorem dX3_tick_54 : decode cX3_tick 54 = .ok (.aload_n 0, 1) := by decide +kernel
theorem dX3_tick_55 : decode cX3_tick 55 = .ok (.invokevirtual 138, 3) := by decide +kernel
theorem dX3_tick_58 : decode cX3_tick 58 = .ok (.aload_n 0, 1) := by decide +kernel
theorem dX3_tick_59 : decode cX3_tick 59 = .ok (.getfield 85, 3) := by decide +kernel
theorem dX3_tick_62 : decode cX3_tick 62 = .ok (.ifCond .eq 7, 3) := by decide +kernel
theorem dX3_tick_65 : decode cX3_tick 65 = .ok (.aload_n 0, 1) := by decide +kernel
theorem dX3_tick_66 : decode cX3_tick 66 = .ok (.invokevirtual 141, 3) := by decide +kernel
theorem dX3_tick_69 : decode cX3_tick 69 = .ok (.iinc 2 1, 3) := by decide +kernel
theorem dX3_tick_72 : decode cX3_tick 72 = .ok (.goto (-63), 3) := by decide +kernel
theorem dX3_tick_75 : decode cX3_tick 75 = .ok (.aload_n 0, 1) := by decide +kernel
theorem dX3_tick_76 : decode cX3_tick 76 = .ok (.getfield 76, 3) := by decide +kernel
theorem dX3_tick_79 : decode cX3_tick 79 = .ok (.ireturn, 1) := by decide +kernel
theorem dX3_clock_0 : decode cX3_clock 0 = .ok (.aload_n 0, 1) := by decide +kernel
theorem dX3_clock_1 : decode cX3_clock 1 = .ok (.getfield 76, 3) := by decide +kernel
theorem dX3_clock_4 : decode cX3_clock 4 = .ok (.ireturn, 1) := by decide +kernel
theorem dX3_next_0 : decode cX3_next 0 = .ok (.aload_n 0, 1) := by decide +kernel
theorem dX3_next_1 : decode cX3_next 1 = .ok (.getfield 76, 3) := by decide +kernel
theorem dX3_next_4 : decode cX3_next 4 = .ok (.aload_n 0, 1) := by decide +kernel
theorem dX3_next_5 : decode cX3_next 5 = .ok (.getfield 144, 3) := by decide +kernel
theorem dX3_next_8 : decode cX3_next 8 = .ok (.if_icmp .gt 10, 3) := by decide +kernel
theorem dX3_next_11 : decode cX3_next 11 = .ok (.aload_n 0, 1) := by decide +kernel
theorem dX3_next_12 : decode cX3_next 12 = .ok (.getfield 32, 3) := by decide +kernel
theorem dX3_next_15 : decode cX3_next 15 = .ok (.goto 4, 3) := by decide +kernel
theorem dX3_next_18 : decode cX3_next 18 = .ok (.iconst (-1), 1) := by decide +kernel
theorem dX3_next_19 : decode cX3_next 19 = .ok (.ireturn, 1) := by decide +kernel
theorem dX3_said_0 : decode cX3_said 0 = .ok (.aload_n 0, 1) := by decide +kernel
theorem dX3_said_1 : decode cX3_said 1 = .ok (.getfield 22, 3) := by decide +kernel
theorem dX3_said_4 : decode cX3_said 4 = .ok (.invokevirtual 147, 3) := by decide +kernel
theorem dX3_said_7 : decode cX3_said 7 = .ok (.ireturn, 1) := by decide +kernel
theorem dX3_turn_0 : decode cX3_turn 0 = .ok (.aload_n 0, 1) := by decide +kernel
theorem dX3_turn_1 : decode cX3_turn 1 = .ok (.iload_n 1, 1) := by decide +kernel
theorem dX3_turn_2 : decode cX3_turn 2 = .ok (.invokevirtual 151, 3) := by decide +kernel
theorem dX3_turn_5 : decode cX3_turn 5 = .ok (.astore_n 3, 1) := by decide +kernel
theorem dX3_turn_6 : decode cX3_turn 6 = .ok (.aload_n 3, 1) := by decide +kernel
theorem dX3_turn_7 : decode cX3_turn 7 = .ok (.ifnonnull 13, 3) := by decide +kernel
theorem dX3_turn_10 : decode cX3_turn 10 = .ok (.new 155, 3) := by decide +kernel
theorem dX3_turn_13 : decode cX3_turn 13 = .ok (.dup, 1) := by decide +kernel
theorem dX3_turn_14 : decode cX3_turn 14 = .ok (.ldc 157, 2) := by decide +kernel
theorem dX3_turn_16 : decode cX3_turn 16 = .ok (.invokespecial 159, 3) := by decide +kernel
theorem dX3_turn_19 : decode cX3_turn 19 = .ok (.athrow, 1) := by decide +kernel
theorem dX3_turn_20 : decode cX3_turn 20 = .ok (.iload_n 2, 1) := by decide +kernel
theorem dX3_turn_21 : decode cX3_turn 21 = .ok (.tableswitch 107 0 8 #[51, 59, 64, 69, 74, 79, 84, 89, 94], 51) := by decide +kernel
theorem dX3_turn_72 : decode cX3_turn 72 = .ok (.aload_n 3, 1) := by decide +kernel
theorem dX3_turn_73 : decode cX3_turn 73 = .ok (.getfield 105, 3) := by decide +kernel
theorem dX3_turn_76 : decode cX3_turn 76 = .ok (.getfield 160, 3) := by decide +kernel
theorem dX3_turn_79 : decode cX3_turn 79 = .ok (.ireturn, 1) := by decide +kernel
theorem dX3_turn_80 : decode cX3_turn 80 = .ok (.aload_n 3, 1) := by decide +kernel
theorem dX3_turn_81 : decode cX3_turn 81 = .ok (.getfield 161, 3) := by decide +kernel
theorem dX3_turn_84 : decode cX3_turn 84 = .ok (.ireturn, 1) := by decide +kernel
theorem dX3_turn_85 : decode cX3_turn 85 = .ok (.aload_n 3, 1) := by decide +kernel
theorem dX3_turn_86 : decode cX3_turn 86 = .ok (.getfield 164, 3) := by decide +kernel
theorem dX3_turn_89 : decode cX3_turn 89 = .ok (.ireturn, 1) := by decide +kernel
theorem dX3_turn_90 : decode cX3_turn 90 = .ok (.aload_n 3, 1) := by decide +kernel
theorem dX3_turn_91 : decode cX3_turn 91 = .ok (.getfield 167, 3) := by decide +kernel
theorem dX3_turn_94 : decode cX3_turn 94 = .ok (.ireturn, 1) := by decide +kernel
theorem dX3_turn_95 : decode cX3_turn 95 = .ok (.aload_n 3, 1) := by decide +kernel
theorem dX3_turn_96 : decode cX3_turn 96 = .ok (.getfield 170, 3) := by decide +kernel
theorem dX3_turn_99 : decode cX3_turn 99 = .ok (.ireturn, 1) := by decide +kernel
theorem dX3_turn_100 : decode cX3_turn 100 = .ok (.aload_n 3, 1) := by decide +kernel
theorem dX3_turn_101 : decode cX3_turn 101 = .ok (.getfield 173, 3) := by decide +kernel
theorem dX3_turn_104 : decode cX3_turn 104 = .ok (.ireturn, 1) := by decide +kernel
theorem dX3_turn_105 : decode cX3_turn 105 = .ok (.aload_n 3, 1) := by decide +kernel
theorem dX3_turn_106 : decode cX3_turn 106 = .ok (.getfield 176, 3) := by decide +kernel
theorem dX3_turn_109 : decode cX3_turn 109 = .ok (.ireturn, 1) := by decide +kernel
theorem dX3_turn_110 : decode cX3_turn 110 = .ok (.aload_n 3, 1) := by decide +kernel
theorem dX3_turn_111 : decode cX3_turn 111 = .ok (.getfield 179, 3) := by decide +kernel
theorem dX3_turn_114 : decode cX3_turn 114 = .ok (.ireturn, 1) := by decide +kernel
theorem dX3_turn_115 : decode cX3_turn 115 = .ok (.aload_n 3, 1) := by decide +kernel
theorem dX3_turn_116 : decode cX3_turn 116 = .ok (.getfield 182, 3) := by decide +kernel
theorem dX3_turn_119 : decode cX3_turn 119 = .ok (.ifCond .eq 7, 3) := by decide +kernel
theorem dX3_turn_122 : decode cX3_turn 122 = .ok (.iconst 1, 1) := by decide +kernel
theorem dX3_turn_123 : decode cX3_turn 123 = .ok (.goto 4, 3) := by decide +kernel
theorem dX3_turn_126 : decode cX3_turn 126 = .ok (.iconst 0, 1) := by decide +kernel
theorem dX3_turn_127 : decode cX3_turn 127 = .ok (.ireturn, 1) := by decide +kernel
theorem dX3_turn_128 : decode cX3_turn 128 = .ok (.new 53, 3) := by decide +kernel
theorem dX3_turn_131 : decode cX3_turn 131 = .ok (.dup, 1) := by decide +kernel
theorem dX3_turn_132 : decode cX3_turn 132 = .ok (.ldc 185, 2) := by decide +kernel
theorem dX3_turn_134 : decode cX3_turn 134 = .ok (.invokespecial 57, 3) := by decide +kernel
theorem dX3_turn_137 : decode cX3_turn 137 = .ok (.athrow, 1) := by decide +kernel
theorem dX3_heard_0 : decode cX3_heard 0 = .ok (.aload_n 0, 1) := by decide +kernel
theorem dX3_heard_1 : decode cX3_heard 1 = .ok (.iload_n 1, 1) := by decide +kernel
theorem dX3_heard_2 : decode cX3_heard 2 = .ok (.invokevirtual 151, 3) := by decide +kernel
theorem dX3_heard_5 : decode cX3_heard 5 = .ok (.astore_n 3, 1) := by decide +kernel
theorem dX3_heard_6 : decode cX3_heard 6 = .ok (.aload_n 3, 1) := by decide +kernel
theorem dX3_heard_7 : decode cX3_heard 7 = .ok (.ifnonnull 13, 3) := by decide +kernel
theorem dX3_heard_10 : decode cX3_heard 10 = .ok (.new 155, 3) := by decide +kernel
theorem dX3_heard_13 : decode cX3_heard 13 = .ok (.dup, 1) := by decide +kernel
theorem dX3_heard_14 : decode cX3_heard 14 = .ok (.ldc 157, 2) := by decide +kernel
theorem dX3_heard_16 : decode cX3_heard 16 = .ok (.invokespecial 159, 3) := by decide +kernel
theorem dX3_heard_19 : decode cX3_heard 19 = .ok (.athrow, 1) := by decide +kernel
theorem dX3_heard_20 : decode cX3_heard 20 = .ok (.iload_n 2, 1) := by decide +kernel
theorem dX3_heard_21 : decode cX3_heard 21 = .ok (.invokestatic 39, 3) := by decide +kernel
theorem dX3_heard_24 : decode cX3_heard 24 = .ok (.aload_n 3, 1) := by decide +kernel
theorem dX3_heard_25 : decode cX3_heard 25 = .ok (.getfield 187, 3) := by decide +kernel
theorem dX3_heard_28 : decode cX3_heard 28 = .ok (.iload_n 2, 1) := by decide +kernel
theorem dX3_heard_29 : decode cX3_heard 29 = .ok (.iaload, 1) := by decide +kernel
theorem dX3_heard_30 : decode cX3_heard 30 = .ok (.ireturn, 1) := by decide +kernel
theorem dX3_stand_0 : decode cX3_stand 0 = .ok (.iload_n 1, 1) := by decide +kernel
theorem dX3_stand_1 : decode cX3_stand 1 = .ok (.invokestatic 39, 3) := by decide +kernel
theorem dX3_stand_4 : decode cX3_stand 4 = .ok (.iload_n 2, 1) := by decide +kernel
theorem dX3_stand_5 : decode cX3_stand 5 = .ok (.invokestatic 70, 3) := by decide +kernel
theorem dX3_stand_8 : decode cX3_stand 8 = .ok (.aload_n 0, 1) := by decide +kernel
theorem dX3_stand_9 : decode cX3_stand 9 = .ok (.getfield 11, 3) := by decide +kernel
theorem dX3_stand_12 : decode cX3_stand 12 = .ok (.iload_n 1, 1) := by decide +kernel
theorem dX3_stand_13 : decode cX3_stand 13 = .ok (.aaload, 1) := by decide +kernel
theorem dX3_stand_14 : decode cX3_stand 14 = .ok (.getfield 190, 3) := by decide +kernel
theorem dX3_stand_17 : decode cX3_stand 17 = .ok (.iload_n 2, 1) := by decide +kernel
theorem dX3_stand_18 : decode cX3_stand 18 = .ok (.iaload, 1) := by decide +kernel
theorem dX3_stand_19 : decode cX3_stand 19 = .ok (.ireturn, 1) := by decide +kernel
theorem dX3_standBy_0 : decode cX3_standBy 0 = .ok (.iload_n 1, 1) := by decide +kernel
theorem dX3_standBy_1 : decode cX3_standBy 1 = .ok (.invokestatic 39, 3) := by decide +kernel
theorem dX3_standBy_4 : decode cX3_standBy 4 = .ok (.iload_n 2, 1) := by decide +kernel
theorem dX3_standBy_5 : decode cX3_standBy 5 = .ok (.invokestatic 70, 3) := by decide +kernel
theorem dX3_standBy_8 : decode cX3_standBy 8 = .ok (.aload_n 0, 1) := by decide +kernel
theorem dX3_standBy_9 : decode cX3_standBy 9 = .ok (.getfield 11, 3) := by decide +kernel
theorem dX3_standBy_12 : decode cX3_standBy 12 = .ok (.iload_n 1, 1) := by decide +kernel
theorem dX3_standBy_13 : decode cX3_standBy 13 = .ok (.aaload, 1) := by decide +kernel
theorem dX3_standBy_14 : decode cX3_standBy 14 = .ok (.getfield 193, 3) := by decide +kernel
theorem dX3_standBy_17 : decode cX3_standBy 17 = .ok (.iload_n 2, 1) := by decide +kernel
theorem dX3_standBy_18 : decode cX3_standBy 18 = .ok (.aaload, 1) := by decide +kernel
theorem dX3_standBy_19 : decode cX3_standBy 19 = .ok (.astore_n 3, 1) := by decide +kernel
theorem dX3_standBy_20 : decode cX3_standBy 20 = .ok (.aload_n 3, 1) := by decide +kernel
theorem dX3_standBy_21 : decode cX3_standBy 21 = .ok (.ifnonnull 7, 3) := by decide +kernel
theorem dX3_standBy_24 : decode cX3_standBy 24 = .ok (.iconst (-1), 1) := by decide +kernel
theorem dX3_standBy_25 : decode cX3_standBy 25 = .ok (.goto 7, 3) := by decide +kernel
theorem dX3_standBy_28 : decode cX3_standBy 28 = .ok (.aload_n 3, 1) := by decide +kernel
theorem dX3_standBy_29 : decode cX3_standBy 29 = .ok (.getfield 115, 3) := by decide +kernel
theorem dX3_standBy_32 : decode cX3_standBy 32 = .ok (.ireturn, 1) := by decide +kernel
theorem dX3_standAnew_0 : decode cX3_standAnew 0 = .ok (.iload_n 1, 1) := by decide +kernel
theorem dX3_standAnew_1 : decode cX3_standAnew 1 = .ok (.invokestatic 39, 3) := by decide +kernel
theorem dX3_standAnew_4 : decode cX3_standAnew 4 = .ok (.iload_n 2, 1) := by decide +kernel
theorem dX3_standAnew_5 : decode cX3_standAnew 5 = .ok (.invokestatic 70, 3) := by decide +kernel
theorem dX3_standAnew_8 : decode cX3_standAnew 8 = .ok (.iconst 0, 1) := by decide +kernel
theorem dX3_standAnew_9 : decode cX3_standAnew 9 = .ok (.istore_n 3, 1) := by decide +kernel
theorem dX3_standAnew_10 : decode cX3_standAnew 10 = .ok (.iconst 0, 1) := by decide +kernel
theorem dX3_standAnew_11 : decode cX3_standAnew 11 = .ok (.istore 4, 2) := by decide +kernel
theorem dX3_standAnew_13 : decode cX3_standAnew 13 = .ok (.iload 4, 2) := by decide +kernel
theorem dX3_standAnew_15 : decode cX3_standAnew 15 = .ok (.aload_n 0, 1) := by decide +kernel
theorem dX3_standAnew_16 : decode cX3_standAnew 16 = .ok (.getfield 29, 3) := by decide +kernel
theorem dX3_standAnew_19 : decode cX3_standAnew 19 = .ok (.invokevirtual 147, 3) := by decide +kernel
theorem dX3_standAnew_22 : decode cX3_standAnew 22 = .ok (.if_icmp .ge 47, 3) := by decide +kernel
theorem dX3_standAnew_25 : decode cX3_standAnew 25 = .ok (.aload_n 0, 1) := by decide +kernel
theorem dX3_standAnew_26 : decode cX3_standAnew 26 = .ok (.getfield 29, 3) := by decide +kernel
theorem dX3_standAnew_29 : decode cX3_standAnew 29 = .ok (.iload 4, 2) := by decide +kernel
theorem dX3_standAnew_31 : decode cX3_standAnew 31 = .ok (.invokevirtual 197, 3) := by decide +kernel
theorem dX3_standAnew_34 : decode cX3_standAnew 34 = .ok (.checkcast 201, 3) := by decide +kernel
theorem dX3_standAnew_37 : decode cX3_standAnew 37 = .ok (.astore 5, 2) := by decide +kernel
theorem dX3_standAnew_39 : decode cX3_standAnew 39 = .ok (.aload 5, 2) := by decide +kernel
theorem dX3_standAnew_41 : decode cX3_standAnew 41 = .ok (.getfield 203, 3) := by decide +kernel
theorem dX3_standAnew_44 : decode cX3_standAnew 44 = .ok (.iload_n 1, 1) := by decide +kernel
theorem dX3_standAnew_45 : decode cX3_standAnew 45 = .ok (.if_icmp .ne 18, 3) := by decide +kernel
theorem dX3_standAnew_48 : decode cX3_standAnew 48 = .ok (.aload 5, 2) := by decide +kernel
theorem dX3_standAnew_50 : decode cX3_standAnew 50 = .ok (.getfield 205, 3) := by decide +kernel
theorem dX3_standAnew_53 : decode cX3_standAnew 53 = .ok (.iload_n 2, 1) := by decide +kernel
theorem dX3_standAnew_54 : decode cX3_standAnew 54 = .ok (.if_icmp .ne 9, 3) := by decide +kernel
theorem dX3_standAnew_57 : decode cX3_standAnew 57 = .ok (.aload 5, 2) := by decide +kernel
theorem dX3_standAnew_59 : decode cX3_standAnew 59 = .ok (.getfield 208, 3) := by decide +kernel
theorem dX3_standAnew_62 : decode cX3_standAnew 62 = .ok (.istore_n 3, 1) := by decide +kernel
theorem dX3_standAnew_63 : decode cX3_standAnew 63 = .ok (.iinc 4 1, 3) := by decide +kernel
theorem dX3_standAnew_66 : decode cX3_standAnew 66 = .ok (.goto (-53), 3) := by decide +kernel
theorem dX3_standAnew_69 : decode cX3_standAnew 69 = .ok (.iload_n 3, 1) := by decide +kernel
theorem dX3_standAnew_70 : decode cX3_standAnew 70 = .ok (.ireturn, 1) := by decide +kernel
theorem dX3_hint_0 : decode cX3_hint 0 = .ok (.iload_n 1, 1) := by decide +kernel
theorem dX3_hint_1 : decode cX3_hint 1 = .ok (.invokestatic 39, 3) := by decide +kernel
theorem dX3_hint_4 : decode cX3_hint 4 = .ok (.iload_n 2, 1) := by decide +kernel
theorem dX3_hint_5 : decode cX3_hint 5 = .ok (.invokestatic 70, 3) := by decide +kernel
theorem dX3_hint_8 : decode cX3_hint 8 = .ok (.aload_n 0, 1) := by decide +kernel
theorem dX3_hint_9 : decode cX3_hint 9 = .ok (.getfield 11, 3) := by decide +kernel
theorem dX3_hint_12 : decode cX3_hint 12 = .ok (.iload_n 1, 1) := by decide +kernel
theorem dX3_hint_13 : decode cX3_hint 13 = .ok (.aaload, 1) := by decide +kernel
theorem dX3_hint_14 : decode cX3_hint 14 = .ok (.getfield 209, 3) := by decide +kernel
theorem dX3_hint_17 : decode cX3_hint 17 = .ok (.iload_n 2, 1) := by decide +kernel
theorem dX3_hint_18 : decode cX3_hint 18 = .ok (.aaload, 1) := by decide +kernel
theorem dX3_hint_19 : decode cX3_hint 19 = .ok (.astore_n 3, 1) := by decide +kernel
theorem dX3_hint_20 : decode cX3_hint 20 = .ok (.aload_n 3, 1) := by decide +kernel
theorem dX3_hint_21 : decode cX3_hint 21 = .ok (.ifnonnull 7, 3) := by decide +kernel
theorem dX3_hint_24 : decode cX3_hint 24 = .ok (.iconst 0, 1) := by decide +kernel
theorem dX3_hint_25 : decode cX3_hint 25 = .ok (.goto 7, 3) := by decide +kernel
theorem dX3_hint_28 : decode cX3_hint 28 = .ok (.aload_n 3, 1) := by decide +kernel
theorem dX3_hint_29 : decode cX3_hint 29 = .ok (.getfield 167, 3) := by decide +kernel
theorem dX3_hint_32 : decode cX3_hint 32 = .ok (.ireturn, 1) := by decide +kernel
theorem dX3_isSupported_0 : decode cX3_isSupported 0 = .ok (.iload_n 1, 1) := by decide +kernel
theorem dX3_isSupported_1 : decode cX3_isSupported 1 = .ok (.invokestatic 39, 3) := by decide +kernel
theorem dX3_isSupported_4 : decode cX3_isSupported 4 = .ok (.iload_n 2, 1) := by decide +kernel
theorem dX3_isSupported_5 : decode cX3_isSupported 5 = .ok (.invokestatic 70, 3) := by decide +kernel
theorem dX3_isSupported_8 : decode cX3_isSupported 8 = .ok (.aload_n 0, 1) := by decide +kernel
theorem dX3_isSupported_9 : decode cX3_isSupported 9 = .ok (.getfield 11, 3) := by decide +kernel
theorem dX3_isSupported_12 : decode cX3_isSupported 12 = .ok (.iload_n 1, 1) := by decide +kernel
theorem dX3_isSupported_13 : decode cX3_isSupported 13 = .ok (.aaload, 1) := by decide +kernel
theorem dX3_isSupported_14 : decode cX3_isSupported 14 = .ok (.astore_n 3, 1) := by decide +kernel
theorem dX3_isSupported_15 : decode cX3_isSupported 15 = .ok (.aload_n 3, 1) := by decide +kernel
theorem dX3_isSupported_16 : decode cX3_isSupported 16 = .ok (.getfield 190, 3) := by decide +kernel
theorem dX3_isSupported_19 : decode cX3_isSupported 19 = .ok (.iload_n 2, 1) := by decide +kernel
theorem dX3_isSupported_20 : decode cX3_isSupported 20 = .ok (.iaload, 1) := by decide +kernel
theorem dX3_isSupported_21 : decode cX3_isSupported 21 = .ok (.ifCond .ne 5, 3) := by decide +kernel
theorem dX3_isSupported_24 : decode cX3_isSupported 24 = .ok (.iconst 0, 1) := by decide +kernel
theorem dX3_isSupported_25 : decode cX3_isSupported 25 = .ok (.ireturn, 1) := by decide +kernel
theorem dX3_isSupported_26 : decode cX3_isSupported 26 = .ok (.iconst 0, 1) := by decide +kernel
theorem dX3_isSupported_27 : decode cX3_isSupported 27 = .ok (.istore 4, 2) := by decide +kernel
theorem dX3_isSupported_29 : decode cX3_isSupported 29 = .ok (.iload 4, 2) := by decide +kernel
theorem dX3_isSupported_31 : decode cX3_isSupported 31 = .ok (.bipush 10, 2) := by decide +kernel
theorem dX3_isSupported_33 : decode cX3_isSupported 33 = .ok (.if_icmp .ge 36, 3) := by decide +kernel
theorem dX3_isSupported_36 : decode cX3_isSupported 36 = .ok (.aload_n 3, 1) := by decide +kernel
theorem dX3_isSupported_37 : decode cX3_isSupported 37 = .ok (.getfield 212, 3) := by decide +kernel
theorem dX3_isSupported_40 : decode cX3_isSupported 40 = .ok (.iload_n 2, 1) := by decide +kernel
theorem dX3_isSupported_41 : decode cX3_isSupported 41 = .ok (.iaload, 1) := by decide +kernel
theorem dX3_isSupported_42 : decode cX3_isSupported 42 = .ok (.iload 4, 2) := by decide +kernel
theorem dX3_isSupported_44 : decode cX3_isSupported 44 = .ok (.invokestatic 49, 3) := by decide +kernel
theorem dX3_isSupported_47 : decode cX3_isSupported 47 = .ok (.ifCond .eq 16, 3) := by decide +kernel
theorem dX3_isSupported_50 : decode cX3_isSupported 50 = .ok (.aload_n 3, 1) := by decide +kernel
theorem dX3_isSupported_51 : decode cX3_isSupported 51 = .ok (.getfield 190, 3) := by decide +kernel
theorem dX3_isSupported_54 : decode cX3_isSupported 54 = .ok (.iload 4, 2) := by decide +kernel
theorem dX3_isSupported_56 : decode cX3_isSupported 56 = .ok (.iaload, 1) := by decide +kernel
theorem dX3_isSupported_57 : decode cX3_isSupported 57 = .ok (.iconst 1, 1) := by decide +kernel
theorem dX3_isSupported_58 : decode cX3_isSupported 58 = .ok (.if_icmp .ne 5, 3) := by decide +kernel
theorem dX3_isSupported_61 : decode cX3_isSupported 61 = .ok (.iconst 1, 1) := by decide +kernel
theorem dX3_isSupported_62 : decode cX3_isSupported 62 = .ok (.ireturn, 1) := by decide +kernel
theorem dX3_isSupported_63 : decode cX3_isSupported 63 = .ok (.iinc 4 1, 3) := by decide +kernel
theorem dX3_isSupported_66 : decode cX3_isSupported 66 = .ok (.goto (-37), 3) := by decide +kernel
theorem dX3_isSupported_69 : decode cX3_isSupported 69 = .ok (.iconst 0, 1) := by decide +kernel
theorem dX3_isSupported_70 : decode cX3_isSupported 70 = .ok (.ireturn, 1) := by decide +kernel
theorem dX3_lies_0 : decode cX3_lies 0 = .ok (.iload_n 1, 1) := by decide +kernel
theorem dX3_lies_1 : decode cX3_lies 1 = .ok (.invokestatic 39, 3) := by decide +kernel
theorem dX3_lies_4 : decode cX3_lies 4 = .ok (.aload_n 0, 1) := by decide +kernel
theorem dX3_lies_5 : decode cX3_lies 5 = .ok (.getfield 11, 3) := by decide +kernel
theorem dX3_lies_8 : decode cX3_lies 8 = .ok (.iload_n 1, 1) := by decide +kernel
theorem dX3_lies_9 : decode cX3_lies 9 = .ok (.aaload, 1) := by decide +kernel
theorem dX3_lies_10 : decode cX3_lies 10 = .ok (.getfield 215, 3) := by decide +kernel
theorem dX3_lies_13 : decode cX3_lies 13 = .ok (.ireturn, 1) := by decide +kernel
theorem dX3_ground_0 : decode cX3_ground 0 = .ok (.iload_n 2, 1) := by decide +kernel
theorem dX3_ground_1 : decode cX3_ground 1 = .ok (.invokestatic 70, 3) := by decide +kernel
theorem dX3_ground_4 : decode cX3_ground 4 = .ok (.iload_n 1, 1) := by decide +kernel
theorem dX3_ground_5 : decode cX3_ground 5 = .ok (.iconst 1, 1) := by decide +kernel
theorem dX3_ground_6 : decode cX3_ground 6 = .ok (.bipush 15, 2) := by decide +kernel
theorem dX3_ground_8 : decode cX3_ground 8 = .ok (.invokestatic 42, 3) := by decide +kernel
theorem dX3_ground_11 : decode cX3_ground 11 = .ok (.aload_n 0, 1) := by decide +kernel
theorem dX3_ground_12 : decode cX3_ground 12 = .ok (.iload_n 1, 1) := by decide +kernel
theorem dX3_ground_13 : decode cX3_ground 13 = .ok (.iload_n 2, 1) := by decide +kernel
theorem dX3_ground_14 : decode cX3_ground 14 = .ok (.iconst 1, 1) := by decide +kernel
theorem dX3_ground_15 : decode cX3_ground 15 = .ok (.invokevirtual 218, 3) := by decide +kernel
theorem dX3_ground_18 : decode cX3_ground 18 = .ok (.ifCond .eq 5, 3) := by decide +kernel
theorem dX3_ground_21 : decode cX3_ground 21 = .ok (.iconst 1, 1) := by decide +kernel
theorem dX3_ground_22 : decode cX3_ground 22 = .ok (.ireturn, 1) := by decide +kernel
theorem dX3_ground_23 : decode cX3_ground 23 = .ok (.aload_n 0, 1) := by decide +kernel
theorem dX3_ground_24 : decode cX3_ground 24 = .ok (.iload_n 1, 1) := by decide +kernel
theorem dX3_ground_25 : decode cX3_ground 25 = .ok (.iload_n 2, 1) := by decide +kernel
theorem dX3_ground_26 : decode cX3_ground 26 = .ok (.iconst 2, 1) := by decide +kernel
theorem dX3_ground_27 : decode cX3_ground 27 = .ok (.invokevirtual 218, 3) := by decide +kernel
theorem dX3_ground_30 : decode cX3_ground 30 = .ok (.ifCond .eq 7, 3) := by decide +kernel
theorem dX3_ground_33 : decode cX3_ground 33 = .ok (.iconst 2, 1) := by decide +kernel
theorem dX3_ground_34 : decode cX3_ground 34 = .ok (.goto 4, 3) := by decide +kernel
theorem dX3_ground_37 : decode cX3_ground 37 = .ok (.iconst 0, 1) := by decide +kernel
theorem dX3_ground_38 : decode cX3_ground 38 = .ok (.ireturn, 1) := by decide +kernel
theorem dX3_questions_0 : decode cX3_questions 0 = .ok (.aload_n 0, 1) := by decide +kernel
theorem dX3_questions_1 : decode cX3_questions 1 = .ok (.getfield 26, 3) := by decide +kernel
theorem dX3_questions_4 : decode cX3_questions 4 = .ok (.invokevirtual 147, 3) := by decide +kernel
theorem dX3_questions_7 : decode cX3_questions 7 = .ok (.ireturn, 1) := by decide +kernel
theorem dX3_question_0 : decode cX3_question 0 = .ok (.iload_n 1, 1) := by decide +kernel
theorem dX3_question_1 : decode cX3_question 1 = .ok (.ifCond .lt 14, 3) := by decide +kernel
theorem dX3_question_4 : decode cX3_question 4 = .ok (.iload_n 1, 1) := by decide +kernel
theorem dX3_question_5 : decode cX3_question 5 = .ok (.aload_n 0, 1) := by decide +kernel
theorem dX3_question_6 : decode cX3_question 6 = .ok (.getfield 26, 3) := by decide +kernel
theorem dX3_question_9 : decode cX3_question 9 = .ok (.invokevirtual 147, 3) := by decide +kernel
theorem dX3_question_12 : decode cX3_question 12 = .ok (.if_icmp .lt 13, 3) := by decide +kernel
theorem dX3_question_15 : decode cX3_question 15 = .ok (.new 155, 3) := by decide +kernel
theorem dX3_question_18 : decode cX3_question 18 = .ok (.dup, 1) := by decide +kernel
theorem dX3_question_19 : decode cX3_question 19 = .ok (.ldc 222, 2) := by decide +kernel
theorem dX3_question_21 : decode cX3_question 21 = .ok (.invokespecial 159, 3) := by decide +kernel
theorem dX3_question_24 : decode cX3_question 24 = .ok (.athrow, 1) := by decide +kernel
theorem dX3_question_25 : decode cX3_question 25 = .ok (.aload_n 0, 1) := by decide +kernel
theorem dX3_question_26 : decode cX3_question 26 = .ok (.getfield 26, 3) := by decide +kernel
theorem dX3_question_29 : decode cX3_question 29 = .ok (.aload_n 0, 1) := by decide +kernel
theorem dX3_question_30 : decode cX3_question 30 = .ok (.getfield 26, 3) := by decide +kernel
theorem dX3_question_33 : decode cX3_question 33 = .ok (.invokevirtual 147, 3) := by decide +kernel
theorem dX3_question_36 : decode cX3_question 36 = .ok (.iconst 1, 1) := by decide +kernel
theorem dX3_question_37 : decode cX3_question 37 = .ok (.isub, 1) := by decide +kernel
theorem dX3_question_38 : decode cX3_question 38 = .ok (.iload_n 1, 1) := by decide +kernel
theorem dX3_question_39 : decode cX3_question 39 = .ok (.isub, 1) := by decide +kernel
theorem dX3_question_40 : decode cX3_question 40 = .ok (.invokevirtual 197, 3) := by decide +kernel
theorem dX3_question_43 : decode cX3_question 43 = .ok (.checkcast 106, 3) := by decide +kernel
theorem dX3_question_46 : decode cX3_question 46 = .ok (.astore_n 3, 1) := by decide +kernel
theorem dX3_question_47 : decode cX3_question 47 = .ok (.iload_n 2, 1) := by decide +kernel
theorem dX3_question_48 : decode cX3_question 48 = .ok (.tableswitch 55 0 3 #[32, 40, 45, 50], 32) := by decide +kernel
theorem dX3_question_80 : decode cX3_question 80 = .ok (.aload_n 3, 1) := by decide +kernel
theorem dX3_question_81 : decode cX3_question 81 = .ok (.getfield 105, 3) := by decide +kernel
theorem dX3_question_84 : decode cX3_question 84 = .ok (.getfield 160, 3) := by decide +kernel
theorem dX3_question_87 : decode cX3_question 87 = .ok (.ireturn, 1) := by decide +kernel
theorem dX3_question_88 : decode cX3_question 88 = .ok (.aload_n 3, 1) := by decide +kernel
theorem dX3_question_89 : decode cX3_question 89 = .ok (.invokevirtual 224, 3) := by decide +kernel
theorem dX3_question_92 : decode cX3_question 92 = .ok (.ireturn, 1) := by decide +kernel
theorem dX3_question_93 : decode cX3_question 93 = .ok (.aload_n 3, 1) := by decide +kernel
theorem dX3_question_94 : decode cX3_question 94 = .ok (.getfield 164, 3) := by decide +kernel
theorem dX3_question_97 : decode cX3_question 97 = .ok (.ireturn, 1) := by decide +kernel
theorem dX3_question_98 : decode cX3_question 98 = .ok (.aload_n 3, 1) := by decide +kernel
theorem dX3_question_99 : decode cX3_question 99 = .ok (.getfield 115, 3) := by decide +kernel
theorem dX3_question_102 : decode cX3_question 102 = .ok (.ireturn, 1) := by decide +kernel
theorem dX3_question_103 : decode cX3_question 103 = .ok (.new 53, 3) := by decide +kernel
theorem dX3_question_106 : decode cX3_question 106 = .ok (.dup, 1) := by decide +kernel
theorem dX3_question_107 : decode cX3_question 107 = .ok (.ldc 227, 2) := by decide +kernel
theorem dX3_question_109 : decode cX3_question 109 = .ok (.invokespecial 57, 3) := by decide +kernel
theorem dX3_question_112 : decode cX3_question 112 = .ok (.athrow, 1) := by decide +kernel
theorem dX3_quarrels_0 : decode cX3_quarrels 0 = .ok (.iconst 0, 1) := by decide +kernel
theorem dX3_quarrels_1 : decode cX3_quarrels 1 = .ok (.istore_n 1, 1) := by decide +kernel
theorem dX3_quarrels_2 : decode cX3_quarrels 2 = .ok (.iconst 0, 1) := by decide +kernel
theorem dX3_quarrels_3 : decode cX3_quarrels 3 = .ok (.istore_n 2, 1) := by decide +kernel
theorem dX3_quarrels_4 : decode cX3_quarrels 4 = .ok (.iload_n 2, 1) := by decide +kernel
theorem dX3_quarrels_5 : decode cX3_quarrels 5 = .ok (.iconst 4, 1) := by decide +kernel
theorem dX3_quarrels_6 : decode cX3_quarrels 6 = .ok (.if_icmp .ge 39, 3) := by decide +kernel
theorem dX3_quarrels_9 : decode cX3_quarrels 9 = .ok (.iconst 0, 1) := by decide +kernel
theorem dX3_quarrels_10 : decode cX3_quarrels 10 = .ok (.istore_n 3, 1) := by decide +kernel
theorem dX3_quarrels_11 : decode cX3_quarrels 11 = .ok (.iload_n 3, 1) := by decide +kernel
theorem dX3_quarrels_12 : decode cX3_quarrels 12 = .ok (.iconst 4, 1) := by decide +kernel
theorem dX3_quarrels_13 : decode cX3_quarrels 13 = .ok (.if_icmp .ge 26, 3) := by decide +kernel
theorem dX3_quarrels_16 : decode cX3_quarrels 16 = .ok (.iload_n 1, 1) := by decide +kernel
theorem dX3_quarrels_17 : decode cX3_quarrels 17 = .ok (.aload_n 0, 1) := by decide +kernel
theorem dX3_quarrels_18 : decode cX3_quarrels 18 = .ok (.getfield 11, 3) := by decide +kernel
theorem dX3_quarrels_21 : decode cX3_quarrels 21 = .ok (.iload_n 2, 1) := by decide +kernel
theorem dX3_quarrels_22 : decode cX3_quarrels 22 = .ok (.aaload, 1) := by decide +kernel
theorem dX3_quarrels_23 : decode cX3_quarrels 23 = .ok (.getfield 229, 3) := by decide +kernel
theorem dX3_quarrels_26 : decode cX3_quarrels 26 = .ok (.iload_n 3, 1) := by decide +kernel
theorem dX3_quarrels_27 : decode cX3_quarrels 27 = .ok (.iaload, 1) := by decide +kernel
theorem dX3_quarrels_28 : decode cX3_quarrels 28 = .ok (.invokestatic 232, 3) := by decide +kernel
theorem dX3_quarrels_31 : decode cX3_quarrels 31 = .ok (.iadd, 1) := by decide +kernel
theorem dX3_quarrels_32 : decode cX3_quarrels 32 = .ok (.istore_n 1, 1) := by decide +kernel
theorem dX3_quarrels_33 : decode cX3_quarrels 33 = .ok (.iinc 3 1, 3) := by decide +kernel
theorem dX3_quarrels_36 : decode cX3_quarrels 36 = .ok (.goto (-25), 3) := by decide +kernel
theorem dX3_quarrels_39 : decode cX3_quarrels 39 = .ok (.iinc 2 1, 3) := by decide +kernel
theorem dX3_quarrels_42 : decode cX3_quarrels 42 = .ok (.goto (-38), 3) := by decide +kernel
theorem dX3_quarrels_45 : decode cX3_quarrels 45 = .ok (.iload_n 1, 1) := by decide +kernel
theorem dX3_quarrels_46 : decode cX3_quarrels 46 = .ok (.ireturn, 1) := by decide +kernel
theorem dX3_owner_0 : decode cX3_owner 0 = .ok (.iload_n 1, 1) := by decide +kernel
theorem dX3_owner_1 : decode cX3_owner 1 = .ok (.invokestatic 82, 3) := by decide +kernel
theorem dX3_owner_4 : decode cX3_owner 4 = .ok (.aload_n 0, 1) := by decide +kernel
theorem dX3_owner_5 : decode cX3_owner 5 = .ok (.getfield 15, 3) := by decide +kernel
theorem dX3_owner_8 : decode cX3_owner 8 = .ok (.iload_n 1, 1) := by decide +kernel
theorem dX3_owner_9 : decode cX3_owner 9 = .ok (.iaload, 1) := by decide +kernel
theorem dX3_owner_10 : decode cX3_owner 10 = .ok (.ireturn, 1) := by decide +kernel
theorem dX3_deals_0 : decode cX3_deals 0 = .ok (.aload_n 0, 1) := by decide +kernel
theorem dX3_deals_1 : decode cX3_deals 1 = .ok (.getfield 238, 3) := by decide +kernel
theorem dX3_deals_4 : decode cX3_deals 4 = .ok (.ireturn, 1) := by decide +kernel
theorem dX3_minutes_0 : decode cX3_minutes 0 = .ok (.bipush 7, 2) := by decide +kernel
theorem dX3_minutes_2 : decode cX3_minutes 2 = .ok (.istore_n 1, 1) := by decide +kernel
theorem dX3_minutes_3 : decode cX3_minutes 3 = .ok (.iconst 0, 1) := by decide +kernel
theorem dX3_minutes_4 : decode cX3_minutes 4 = .ok (.istore_n 2, 1) := by decide +kernel
theorem dX3_minutes_5 : decode cX3_minutes 5 = .ok (.iload_n 2, 1) := by decide +kernel
theorem dX3_minutes_6 : decode cX3_minutes 6 = .ok (.aload_n 0, 1) := by decide +kernel
theorem dX3_minutes_7 : decode cX3_minutes 7 = .ok (.getfield 22, 3) := by decide +kernel
theorem dX3_minutes_10 : decode cX3_minutes 10 = .ok (.invokevirtual 147, 3) := by decide +kernel
theorem dX3_minutes_13 : decode cX3_minutes 13 = .ok (.if_icmp .ge 84, 3) := by decide +kernel
theorem dX3_minutes_16 : decode cX3_minutes 16 = .ok (.aload_n 0, 1) := by decide +kernel
theorem dX3_minutes_17 : decode cX3_minutes 17 = .ok (.getfield 22, 3) := by decide +kernel
theorem dX3_minutes_20 : decode cX3_minutes 20 = .ok (.iload_n 2, 1) := by decide +kernel
theorem dX3_minutes_21 : decode cX3_minutes 21 = .ok (.invokevirtual 197, 3) := by decide +kernel
theorem dX3_minutes_24 : decode cX3_minutes 24 = .ok (.checkcast 106, 3) := by decide +kernel
theorem dX3_minutes_27 : decode cX3_minutes 27 = .ok (.astore_n 3, 1) := by decide +kernel
theorem dX3_minutes_28 : decode cX3_minutes 28 = .ok (.bipush 31, 2) := by decide +kernel
theorem dX3_minutes_30 : decode cX3_minutes 30 = .ok (.iload_n 1, 1) := by decide +kernel
theorem dX3_minutes_31 : decode cX3_minutes 31 = .ok (.imul, 1) := by decide +kernel
theorem dX3_minutes_32 : decode cX3_minutes 32 = .ok (.aload_n 3, 1) := by decide +kernel
theorem dX3_minutes_33 : decode cX3_minutes 33 = .ok (.getfield 105, 3) := by decide +kernel
theorem dX3_minutes_36 : decode cX3_minutes 36 = .ok (.getfield 160, 3) := by decide +kernel
theorem dX3_minutes_39 : decode cX3_minutes 39 = .ok (.iadd, 1) := by decide +kernel
theorem dX3_minutes_40 : decode cX3_minutes 40 = .ok (.istore_n 1, 1) := by decide +kernel
theorem dX3_minutes_41 : decode cX3_minutes 41 = .ok (.bipush 31, 2) := by decide +kernel
theorem dX3_minutes_43 : decode cX3_minutes 43 = .ok (.iload_n 1, 1) := by decide +kernel
theorem dX3_minutes_44 : decode cX3_minutes 44 = .ok (.imul, 1) := by decide +kernel
theorem dX3_minutes_45 : decode cX3_minutes 45 = .ok (.aload_n 3, 1) := by decide +kernel
theorem dX3_minutes_46 : decode cX3_minutes 46 = .ok (.getfield 161, 3) := by decide +kernel
theorem dX3_minutes_49 : decode cX3_minutes 49 = .ok (.iadd, 1) := by decide +kernel
theorem dX3_minutes_50 : decode cX3_minutes 50 = .ok (.istore_n 1, 1) := by decide +kernel
theorem dX3_minutes_51 : decode cX3_minutes 51 = .ok (.bipush 31, 2) := by decide +kernel
theorem dX3_minutes_53 : decode cX3_minutes 53 = .ok (.iload_n 1, 1) := by decide +kernel
theorem dX3_minutes_54 : decode cX3_minutes 54 = .ok (.imul, 1) := by decide +kernel
theorem dX3_minutes_55 : decode cX3_minutes 55 = .ok (.aload_n 3, 1) := by decide +kernel
theorem dX3_minutes_56 : decode cX3_minutes 56 = .ok (.getfield 164, 3) := by decide +kernel
theorem dX3_minutes_59 : decode cX3_minutes 59 = .ok (.iadd, 1) := by decide +kernel
theorem dX3_minutes_60 : decode cX3_minutes 60 = .ok (.istore_n 1, 1) := by decide +kernel
theorem dX3_minutes_61 : decode cX3_minutes 61 = .ok (.bipush 31, 2) := by decide +kernel
theorem dX3_minutes_63 : decode cX3_minutes 63 = .ok (.iload_n 1, 1) := by decide +kernel
theorem dX3_minutes_64 : decode cX3_minutes 64 = .ok (.imul, 1) := by decide +kernel
theorem dX3_minutes_65 : decode cX3_minutes 65 = .ok (.aload_n 3, 1) := by decide +kernel
theorem dX3_minutes_66 : decode cX3_minutes 66 = .ok (.getfield 167, 3) := by decide +kernel
theorem dX3_minutes_69 : decode cX3_minutes 69 = .ok (.iadd, 1) := by decide +kernel
theorem dX3_minutes_70 : decode cX3_minutes 70 = .ok (.istore_n 1, 1) := by decide +kernel
theorem dX3_minutes_71 : decode cX3_minutes 71 = .ok (.bipush 31, 2) := by decide +kernel
theorem dX3_minutes_73 : decode cX3_minutes 73 = .ok (.iload_n 1, 1) := by decide +kernel
theorem dX3_minutes_74 : decode cX3_minutes 74 = .ok (.imul, 1) := by decide +kernel
theorem dX3_minutes_75 : decode cX3_minutes 75 = .ok (.aload_n 3, 1) := by decide +kernel
theorem dX3_minutes_76 : decode cX3_minutes 76 = .ok (.getfield 170, 3) := by decide +kernel
theorem dX3_minutes_79 : decode cX3_minutes 79 = .ok (.iadd, 1) := by decide +kernel
theorem dX3_minutes_80 : decode cX3_minutes 80 = .ok (.istore_n 1, 1) := by decide +kernel
theorem dX3_minutes_81 : decode cX3_minutes 81 = .ok (.bipush 31, 2) := by decide +kernel
theorem dX3_minutes_83 : decode cX3_minutes 83 = .ok (.iload_n 1, 1) := by decide +kernel
theorem dX3_minutes_84 : decode cX3_minutes 84 = .ok (.imul, 1) := by decide +kernel
theorem dX3_minutes_85 : decode cX3_minutes 85 = .ok (.aload_n 3, 1) := by decide +kernel
theorem dX3_minutes_86 : decode cX3_minutes 86 = .ok (.getfield 176, 3) := by decide +kernel
theorem dX3_minutes_89 : decode cX3_minutes 89 = .ok (.iadd, 1) := by decide +kernel
theorem dX3_minutes_90 : decode cX3_minutes 90 = .ok (.istore_n 1, 1) := by decide +kernel
theorem dX3_minutes_91 : decode cX3_minutes 91 = .ok (.iinc 2 1, 3) := by decide +kernel
theorem dX3_minutes_94 : decode cX3_minutes 94 = .ok (.goto (-89), 3) := by decide +kernel
theorem dX3_minutes_97 : decode cX3_minutes 97 = .ok (.iload_n 1, 1) := by decide +kernel
theorem dX3_minutes_98 : decode cX3_minutes 98 = .ok (.ireturn, 1) := by decide +kernel
theorem dX3_needSpeaker_0 : decode cX3_needSpeaker 0 = .ok (.iload_n 0, 1) := by decide +kernel
theorem dX3_needSpeaker_1 : decode cX3_needSpeaker 1 = .ok (.ifCond .lt 8, 3) := by decide +kernel
theorem dX3_needSpeaker_4 : decode cX3_needSpeaker 4 = .ok (.iload_n 0, 1) := by decide +kernel
theorem dX3_needSpeaker_5 : decode cX3_needSpeaker 5 = .ok (.iconst 4, 1) := by decide +kernel
theorem dX3_needSpeaker_6 : decode cX3_needSpeaker 6 = .ok (.if_icmp .lt 13, 3) := by decide +kernel
theorem dX3_needSpeaker_9 : decode cX3_needSpeaker 9 = .ok (.new 155, 3) := by decide +kernel
theorem dX3_needSpeaker_12 : decode cX3_needSpeaker 12 = .ok (.dup, 1) := by decide +kernel
theorem dX3_needSpeaker_13 : decode cX3_needSpeaker 13 = .ok (.ldc 241, 2) := by decide +kernel
theorem dX3_needSpeaker_15 : decode cX3_needSpeaker 15 = .ok (.invokespecial 159, 3) := by decide +kernel
theorem dX3_needSpeaker_18 : decode cX3_needSpeaker 18 = .ok (.athrow, 1) := by decide +kernel
theorem dX3_needSpeaker_19 : decode cX3_needSpeaker 19 = .ok (.return_, 1) := by decide +kernel
theorem dX3_needAtom_0 : decode cX3_needAtom 0 = .ok (.iload_n 0, 1) := by decide +kernel
theorem dX3_needAtom_1 : decode cX3_needAtom 1 = .ok (.invokestatic 243, 3) := by decide +kernel
theorem dX3_needAtom_4 : decode cX3_needAtom 4 = .ok (.ifCond .ne 13, 3) := by decide +kernel
theorem dX3_needAtom_7 : decode cX3_needAtom 7 = .ok (.new 155, 3) := by decide +kernel
theorem dX3_needAtom_10 : decode cX3_needAtom 10 = .ok (.dup, 1) := by decide +kernel
theorem dX3_needAtom_11 : decode cX3_needAtom 11 = .ok (.ldc 247, 2) := by decide +kernel
theorem dX3_needAtom_13 : decode cX3_needAtom 13 = .ok (.invokespecial 159, 3) := by decide +kernel
theorem dX3_needAtom_16 : decode cX3_needAtom 16 = .ok (.athrow, 1) := by decide +kernel
theorem dX3_needAtom_17 : decode cX3_needAtom 17 = .ok (.return_, 1) := by decide +kernel
theorem dX3_needGood_0 : decode cX3_needGood 0 = .ok (.iload_n 0, 1) := by decide +kernel
theorem dX3_needGood_1 : decode cX3_needGood 1 = .ok (.ifCond .lt 9, 3) := by decide +kernel
theorem dX3_needGood_4 : decode cX3_needGood 4 = .ok (.iload_n 0, 1) := by decide +kernel
theorem dX3_needGood_5 : decode cX3_needGood 5 = .ok (.bipush 8, 2) := by decide +kernel
theorem dX3_needGood_7 : decode cX3_needGood 7 = .ok (.if_icmp .lt 13, 3) := by decide +kernel
theorem dX3_needGood_10 : decode cX3_needGood 10 = .ok (.new 155, 3) := by decide +kernel
theorem dX3_needGood_13 : decode cX3_needGood 13 = .ok (.dup, 1) := by decide +kernel
theorem dX3_needGood_14 : decode cX3_needGood 14 = .ok (.ldc 249, 2) := by decide +kernel
theorem dX3_needGood_16 : decode cX3_needGood 16 = .ok (.invokespecial 159, 3) := by decide +kernel
theorem dX3_needGood_19 : decode cX3_needGood 19 = .ok (.athrow, 1) := by decide +kernel
theorem dX3_needGood_20 : decode cX3_needGood 20 = .ok (.return_, 1) := by decide +kernel
theorem dX3_needRange_0 : decode cX3_needRange 0 = .ok (.iload_n 0, 1) := by decide +kernel
theorem dX3_needRange_1 : decode cX3_needRange 1 = .ok (.iload_n 1, 1) := by decide +kernel
theorem dX3_needRange_2 : decode cX3_needRange 2 = .ok (.iload_n 2, 1) := by decide +kernel
theorem dX3_needRange_3 : decode cX3_needRange 3 = .ok (.invokestatic 251, 3) := by decide +kernel
theorem dX3_needRange_6 : decode cX3_needRange 6 = .ok (.ifCond .ne 13, 3) := by decide +kernel
theorem dX3_needRange_9 : decode cX3_needRange 9 = .ok (.new 53, 3) := by decide +kernel
theorem dX3_needRange_12 : decode cX3_needRange 12 = .ok (.dup, 1) := by decide +kernel
theorem dX3_needRange_13 : decode cX3_needRange 13 = .ok (.ldc 254, 2) := by decide +kernel
theorem dX3_needRange_15 : decode cX3_needRange 15 = .ok (.invokespecial 57, 3) := by decide +kernel
theorem dX3_needRange_18 : decode cX3_needRange 18 = .ok (.athrow, 1) := by decide +kernel
theorem dX3_needRange_19 : decode cX3_needRange 19 = .ok (.return_, 1) := by decide +kernel
theorem dX3_isWithin_0 : decode cX3_isWithin 0 = .ok (.iload_n 0, 1) := by decide +kernel
theorem dX3_isWithin_1 : decode cX3_isWithin 1 = .ok (.iload_n 1, 1) := by decide +kernel
theorem dX3_isWithin_2 : decode cX3_isWithin 2 = .ok (.if_icmp .lt 12, 3) := by decide +kernel
theorem dX3_isWithin_5 : decode cX3_isWithin 5 = .ok (.iload_n 0, 1) := by decide +kernel
theorem dX3_isWithin_6 : decode cX3_isWithin 6 = .ok (.iload_n 2, 1) := by decide +kernel
theorem dX3_isWithin_7 : decode cX3_isWithin 7 = .ok (.if_icmp .gt 7, 3) := by decide +kernel
theorem dX3_isWithin_10 : decode cX3_isWithin 10 = .ok (.iconst 1, 1) := by decide +kernel
theorem dX3_isWithin_11 : decode cX3_isWithin 11 = .ok (.goto 4, 3) := by decide +kernel
theorem dX3_isWithin_14 : decode cX3_isWithin 14 = .ok (.iconst 0, 1) := by decide +kernel
theorem dX3_isWithin_15 : decode cX3_isWithin 15 = .ok (.ireturn, 1) := by decide +kernel
theorem dX3_isAtom_0 : decode cX3_isAtom 0 = .ok (.iload_n 0, 1) := by decide +kernel
theorem dX3_isAtom_1 : decode cX3_isAtom 1 = .ok (.iconst 0, 1) := by decide +kernel
theorem dX3_isAtom_2 : decode cX3_isAtom 2 = .ok (.bipush 9, 2) := by decide +kernel
theorem dX3_isAtom_4 : decode cX3_isAtom 4 = .ok (.invokestatic 251, 3) := by decide +kernel
theorem dX3_isAtom_7 : decode cX3_isAtom 7 = .ok (.ireturn, 1) := by decide +kernel
theorem dX3_isIn_0 : decode cX3_isIn 0 = .ok (.iload_n 0, 1) := by decide +kernel
theorem dX3_isIn_1 : decode cX3_isIn 1 = .ok (.iload_n 1, 1) := by decide +kernel
theorem dX3_isIn_2 : decode cX3_isIn 2 = .ok (.ishr, 1) := by decide +kernel
theorem dX3_isIn_3 : decode cX3_isIn 3 = .ok (.iconst 1, 1) := by decide +kernel
theorem dX3_isIn_4 : decode cX3_isIn 4 = .ok (.iand, 1) := by decide +kernel
theorem dX3_isIn_5 : decode cX3_isIn 5 = .ok (.iconst 1, 1) := by decide +kernel
theorem dX3_isIn_6 : decode cX3_isIn 6 = .ok (.if_icmp .ne 7, 3) := by decide +kernel
theorem dX3_isIn_9 : decode cX3_isIn 9 = .ok (.iconst 1, 1) := by decide +kernel
theorem dX3_isIn_10 : decode cX3_isIn 10 = .ok (.goto 4, 3) := by decide +kernel
theorem dX3_isIn_13 : decode cX3_isIn 13 = .ok (.iconst 0, 1) := by decide +kernel
theorem dX3_isIn_14 : decode cX3_isIn 14 = .ok (.ireturn, 1) := by decide +kernel
theorem dX3_contrary_0 : decode cX3_contrary 0 = .ok (.iconst 3, 1) := by decide +kernel
theorem dX3_contrary_1 : decode cX3_contrary 1 = .ok (.iload_n 0, 1) := by decide +kernel
theorem dX3_contrary_2 : decode cX3_contrary 2 = .ok (.isub, 1) := by decide +kernel
theorem dX3_contrary_3 : decode cX3_contrary 3 = .ok (.ireturn, 1) := by decide +kernel
theorem dX3_turnAt_0 : decode cX3_turnAt 0 = .ok (.iload_n 1, 1) := by decide +kernel
theorem dX3_turnAt_1 : decode cX3_turnAt 1 = .ok (.ifCond .lt 28, 3) := by decide +kernel
theorem dX3_turnAt_4 : decode cX3_turnAt 4 = .ok (.iload_n 1, 1) := by decide +kernel
theorem dX3_turnAt_5 : decode cX3_turnAt 5 = .ok (.aload_n 0, 1) := by decide +kernel
theorem dX3_turnAt_6 : decode cX3_turnAt 6 = .ok (.getfield 22, 3) := by decide +kernel
theorem dX3_turnAt_9 : decode cX3_turnAt 9 = .ok (.invokevirtual 147, 3) := by decide +kernel
theorem dX3_turnAt_12 : decode cX3_turnAt 12 = .ok (.if_icmp .ge 17, 3) := by decide +kernel
theorem dX3_turnAt_15 : decode cX3_turnAt 15 = .ok (.aload_n 0, 1) := by decide +kernel
theorem dX3_turnAt_16 : decode cX3_turnAt 16 = .ok (.getfield 22, 3) := by decide +kernel
theorem dX3_turnAt_19 : decode cX3_turnAt 19 = .ok (.iload_n 1, 1) := by decide +kernel
theorem dX3_turnAt_20 : decode cX3_turnAt 20 = .ok (.invokevirtual 197, 3) := by decide +kernel
theorem dX3_turnAt_23 : decode cX3_turnAt 23 = .ok (.checkcast 106, 3) := by decide +kernel
theorem dX3_turnAt_26 : decode cX3_turnAt 26 = .ok (.goto 4, 3) := by decide +kernel
theorem dX3_turnAt_29 : decode cX3_turnAt 29 = .ok (.aconst_null, 1) := by decide +kernel
theorem dX3_turnAt_30 : decode cX3_turnAt 30 = .ok (.areturn, 1) := by decide +kernel
theorem dX3_topQuestion_0 : decode cX3_topQuestion 0 = .ok (.aload_n 0, 1) := by decide +kernel
theorem dX3_topQuestion_1 : decode cX3_topQuestion 1 = .ok (.getfield 26, 3) := by decide +kernel
theorem dX3_topQuestion_4 : decode cX3_topQuestion 4 = .ok (.invokevirtual 256, 3) := by decide +kernel
theorem dX3_topQuestion_7 : decode cX3_topQuestion 7 = .ok (.ifCond .eq 7, 3) := by decide +kernel
theorem dX3_topQuestion_10 : decode cX3_topQuestion 10 = .ok (.aconst_null, 1) := by decide +kernel
theorem dX3_topQuestion_11 : decode cX3_topQuestion 11 = .ok (.goto 22, 3) := by decide +kernel
theorem dX3_topQuestion_14 : decode cX3_topQuestion 14 = .ok (.aload_n 0, 1) := by decide +kernel
theorem dX3_topQuestion_15 : decode cX3_topQuestion 15 = .ok (.getfield 26, 3) := by decide +kernel
theorem dX3_topQuestion_18 : decode cX3_topQuestion 18 = .ok (.aload_n 0, 1) := by decide +kernel
theorem dX3_topQuestion_19 : decode cX3_topQuestion 19 = .ok (.getfield 26, 3) := by decide +kernel
theorem dX3_topQuestion_22 : decode cX3_topQuestion 22 = .ok (.invokevirtual 147, 3) := by decide +kernel
theorem dX3_topQuestion_25 : decode cX3_topQuestion 25 = .ok (.iconst 1, 1) := by decide +kernel
theorem dX3_topQuestion_26 : decode cX3_topQuestion 26 = .ok (.isub, 1) := by decide +kernel
theorem dX3_topQuestion_27 : decode cX3_topQuestion 27 = .ok (.invokevirtual 197, 3) := by decide +kernel
theorem dX3_topQuestion_30 : decode cX3_topQuestion 30 = .ok (.checkcast 106, 3) := by decide +kernel
theorem dX3_topQuestion_33 : decode cX3_topQuestion 33 = .ok (.areturn, 1) := by decide +kernel
theorem dX3_draft_0 : decode cX3_draft 0 = .ok (.iload_n 1, 1) := by decide +kernel
theorem dX3_draft_1 : decode cX3_draft 1 = .ok (.invokestatic 39, 3) := by decide +kernel
theorem dX3_draft_4 : decode cX3_draft 4 = .ok (.new 106, 3) := by decide +kernel
theorem dX3_draft_7 : decode cX3_draft 7 = .ok (.dup, 1) := by decide +kernel
theorem dX3_draft_8 : decode cX3_draft 8 = .ok (.aload_n 0, 1) := by decide +kernel
theorem dX3_draft_9 : decode cX3_draft 9 = .ok (.getfield 11, 3) := by decide +kernel
theorem dX3_draft_12 : decode cX3_draft 12 = .ok (.iload_n 1, 1) := by decide +kernel
theorem dX3_draft_13 : decode cX3_draft 13 = .ok (.aaload, 1) := by decide +kernel
theorem dX3_draft_14 : decode cX3_draft 14 = .ok (.iload_n 2, 1) := by decide +kernel
theorem dX3_draft_15 : decode cX3_draft 15 = .ok (.iload_n 3, 1) := by decide +kernel
theorem dX3_draft_16 : decode cX3_draft 16 = .ok (.iload 4, 2) := by decide +kernel
theorem dX3_draft_18 : decode cX3_draft 18 = .ok (.iload 5, 2) := by decide +kernel
theorem dX3_draft_20 : decode cX3_draft 20 = .ok (.iload 6, 2) := by decide +kernel
theorem dX3_draft_22 : decode cX3_draft 22 = .ok (.invokespecial 260, 3) := by decide +kernel
theorem dX3_draft_25 : decode cX3_draft 25 = .ok (.astore 7, 2) := by decide +kernel
theorem dX3_draft_27 : decode cX3_draft 27 = .ok (.iload 5, 2) := by decide +kernel
theorem dX3_draft_29 : decode cX3_draft 29 = .ok (.iconst 1, 1) := by decide +kernel
theorem dX3_draft_30 : decode cX3_draft 30 = .ok (.bipush 15, 2) := by decide +kernel
theorem dX3_draft_32 : decode cX3_draft 32 = .ok (.invokestatic 251, 3) := by decide +kernel
theorem dX3_draft_35 : decode cX3_draft 35 = .ok (.ifCond .eq 21, 3) := by decide +kernel
theorem dX3_draft_38 : decode cX3_draft 38 = .ok (.iload 5, 2) := by decide +kernel
theorem dX3_draft_40 : decode cX3_draft 40 = .ok (.iload_n 1, 1) := by decide +kernel
theorem dX3_draft_41 : decode cX3_draft 41 = .ok (.invokestatic 49, 3) := by decide +kernel
theorem dX3_draft_44 : decode cX3_draft 44 = .ok (.ifCond .ne 12, 3) := by decide +kernel
theorem dX3_draft_47 : decode cX3_draft 47 = .ok (.aload_n 0, 1) := by decide +kernel
theorem dX3_draft_48 : decode cX3_draft 48 = .ok (.aload 7, 2) := by decide +kernel
theorem dX3_draft_50 : decode cX3_draft 50 = .ok (.invokevirtual 263, 3) := by decide +kernel
theorem dX3_draft_53 : decode cX3_draft 53 = .ok (.ifCond .ne 14, 3) := by decide +kernel
theorem dX3_draft_56 : decode cX3_draft 56 = .ok (.new 53, 3) := by decide +kernel
theorem dX3_draft_59 : decode cX3_draft 59 = .ok (.dup, 1) := by decide +kernel
theorem dX3_draft_60 : decode cX3_draft 60 = .ok (.ldc_w 266, 3) := by decide +kernel
theorem dX3_draft_63 : decode cX3_draft 63 = .ok (.invokespecial 57, 3) := by decide +kernel
theorem dX3_draft_66 : decode cX3_draft 66 = .ok (.athrow, 1) := by decide +kernel
theorem dX3_draft_67 : decode cX3_draft 67 = .ok (.aload 7, 2) := by decide +kernel
theorem dX3_draft_69 : decode cX3_draft 69 = .ok (.aload_n 0, 1) := by decide +kernel
theorem dX3_draft_70 : decode cX3_draft 70 = .ok (.getfield 22, 3) := by decide +kernel
theorem dX3_draft_73 : decode cX3_draft 73 = .ok (.invokevirtual 147, 3) := by decide +kernel
theorem dX3_draft_76 : decode cX3_draft 76 = .ok (.putfield 115, 3) := by decide +kernel
theorem dX3_draft_79 : decode cX3_draft 79 = .ok (.aload 7, 2) := by decide +kernel
theorem dX3_draft_81 : decode cX3_draft 81 = .ok (.areturn, 1) := by decide +kernel
theorem dX3_isWellTold_0 : decode cX3_isWellTold 0 = .ok (.aload_n 1, 1) := by decide +kernel
theorem dX3_isWellTold_1 : decode cX3_isWellTold 1 = .ok (.getfield 161, 3) := by decide +kernel
theorem dX3_isWellTold_4 : decode cX3_isWellTold 4 = .ok (.tableswitch 258 0 15 #[80, 118, 151, 161, 163, 163, 163, 163, 163, 180, 217, 225, 217, 253, 163, 163], 80) := by decide +kernel
theorem dX3_isWellTold_84 : decode cX3_isWellTold 84 = .ok (.aload_n 1, 1) := by decide +kernel
theorem dX3_isWellTold_85 : decode cX3_isWellTold 85 = .ok (.getfield 164, 3) := by decide +kernel
theorem dX3_isWellTold_88 : decode cX3_isWellTold 88 = .ok (.invokestatic 243, 3) := by decide +kernel
theorem dX3_isWellTold_91 : decode cX3_isWellTold 91 = .ok (.ifCond .eq 29, 3) := by decide +kernel
theorem dX3_isWellTold_94 : decode cX3_isWellTold 94 = .ok (.aload_n 1, 1) := by decide +kernel
theorem dX3_isWellTold_95 : decode cX3_isWellTold 95 = .ok (.getfield 167, 3) := by decide +kernel
theorem dX3_isWellTold_98 : decode cX3_isWellTold 98 = .ok (.iconst 1, 1) := by decide +kernel
theorem dX3_isWellTold_99 : decode cX3_isWellTold 99 = .ok (.iconst 2, 1) := by decide +kernel
theorem dX3_isWellTold_100 : decode cX3_isWellTold 100 = .ok (.invokestatic 251, 3) := by decide +kernel
theorem dX3_isWellTold_103 : decode cX3_isWellTold 103 = .ok (.ifCond .eq 17, 3) := by decide +kernel
theorem dX3_isWellTold_106 : decode cX3_isWellTold 106 = .ok (.aload_n 1, 1) := by decide +kernel
theorem dX3_isWellTold_107 : decode cX3_isWellTold 107 = .ok (.getfield 173, 3) := by decide +kernel
theorem dX3_isWellTold_110 : decode cX3_isWellTold 110 = .ok (.invokestatic 268, 3) := by decide +kernel
theorem dX3_isWellTold_113 : decode cX3_isWellTold 113 = .ok (.ifCond .eq 7, 3) := by decide +kernel
theorem dX3_isWellTold_116 : decode cX3_isWellTold 116 = .ok (.iconst 1, 1) := by decide +kernel
theorem dX3_isWellTold_117 : decode cX3_isWellTold 117 = .ok (.goto 4, 3) := by decide +kernel
theorem dX3_isWellTold_120 : decode cX3_isWellTold 120 = .ok (.iconst 0, 1) := by decide +kernel
theorem dX3_isWellTold_121 : decode cX3_isWellTold 121 = .ok (.ireturn, 1) := by decide +kernel
theorem dX3_isWellTold_122 : decode cX3_isWellTold 122 = .ok (.aload_n 1, 1) := by decide +kernel
theorem dX3_isWellTold_123 : decode cX3_isWellTold 123 = .ok (.getfield 164, 3) := by decide +kernel
theorem dX3_isWellTold_126 : decode cX3_isWellTold 126 = .ok (.invokestatic 243, 3) := by decide +kernel
theorem dX3_isWellTold_129 : decode cX3_isWellTold 129 = .ok (.ifCond .eq 24, 3) := by decide +kernel
theorem dX3_isWellTold_132 : decode cX3_isWellTold 132 = .ok (.aload_n 1, 1) := by decide +kernel
theorem dX3_isWellTold_133 : decode cX3_isWellTold 133 = .ok (.getfield 173, 3) := by decide +kernel
theorem dX3_isWellTold_136 : decode cX3_isWellTold 136 = .ok (.invokestatic 268, 3) := by decide +kernel
theorem dX3_isWellTold_139 : decode cX3_isWellTold 139 = .ok (.ifCond .eq 14, 3) := by decide +kernel
theorem dX3_isWellTold_142 : decode cX3_isWellTold 142 = .ok (.aload_n 1, 1) := by decide +kernel
theorem dX3_isWellTold_143 : decode cX3_isWellTold 143 = .ok (.invokevirtual 271, 3) := by decide +kernel
theorem dX3_isWellTold_146 : decode cX3_isWellTold 146 = .ok (.ifCond .eq 7, 3) := by decide +kernel
theorem dX3_isWellTold_149 : decode cX3_isWellTold 149 = .ok (.iconst 1, 1) := by decide +kernel
theorem dX3_isWellTold_150 : decode cX3_isWellTold 150 = .ok (.goto 4, 3) := by decide +kernel
theorem dX3_isWellTold_153 : decode cX3_isWellTold 153 = .ok (.iconst 0, 1) := by decide +kernel
theorem dX3_isWellTold_154 : decode cX3_isWellTold 154 = .ok (.ireturn, 1) := by decide +kernel
theorem dX3_isWellTold_155 : decode cX3_isWellTold 155 = .ok (.aload_n 1, 1) := by decide +kernel
theorem dX3_isWellTold_156 : decode cX3_isWellTold 156 = .ok (.getfield 167, 3) := by decide +kernel
theorem dX3_isWellTold_159 : decode cX3_isWellTold 159 = .ok (.iconst 0, 1) := by decide +kernel
theorem dX3_isWellTold_160 : decode cX3_isWellTold 160 = .ok (.iconst 2, 1) := by decide +kernel
theorem dX3_isWellTold_161 : decode cX3_isWellTold 161 = .ok (.invokestatic 251, 3) := by decide +kernel
theorem dX3_isWellTold_164 : decode cX3_isWellTold 164 = .ok (.ireturn, 1) := by decide +kernel
theorem dX3_isWellTold_165 : decode cX3_isWellTold 165 = .ok (.iconst 1, 1) := by decide +kernel
theorem dX3_isWellTold_166 : decode cX3_isWellTold 166 = .ok (.ireturn, 1) := by decide +kernel
theorem dX3_isWellTold_167 : decode cX3_isWellTold 167 = .ok (.aload_n 0, 1) := by decide +kernel
theorem dX3_isWellTold_168 : decode cX3_isWellTold 168 = .ok (.aload_n 1, 1) := by decide +kernel
theorem dX3_isWellTold_169 : decode cX3_isWellTold 169 = .ok (.getfield 164, 3) := by decide +kernel
theorem dX3_isWellTold_172 : decode cX3_isWellTold 172 = .ok (.invokevirtual 151, 3) := by decide +kernel
theorem dX3_isWellTold_175 : decode cX3_isWellTold 175 = .ok (.ifnull 7, 3) := by decide +kernel
theorem dX3_isWellTold_178 : decode cX3_isWellTold 178 = .ok (.iconst 1, 1) := by decide +kernel
theorem dX3_isWellTold_179 : decode cX3_isWellTold 179 = .ok (.goto 4, 3) := by decide +kernel
theorem dX3_isWellTold_182 : decode cX3_isWellTold 182 = .ok (.iconst 0, 1) := by decide +kernel
theorem dX3_isWellTold_183 : decode cX3_isWellTold 183 = .ok (.ireturn, 1) := by decide +kernel
theorem dX3_isWellTold_184 : decode cX3_isWellTold 184 = .ok (.aload_n 1, 1) := by decide +kernel
theorem dX3_isWellTold_185 : decode cX3_isWellTold 185 = .ok (.getfield 164, 3) := by decide +kernel
theorem dX3_isWellTold_188 : decode cX3_isWellTold 188 = .ok (.invokestatic 243, 3) := by decide +kernel
theorem dX3_isWellTold_191 : decode cX3_isWellTold 191 = .ok (.ifCond .eq 28, 3) := by decide +kernel
theorem dX3_isWellTold_194 : decode cX3_isWellTold 194 = .ok (.aload_n 1, 1) := by decide +kernel
theorem dX3_isWellTold_195 : decode cX3_isWellTold 195 = .ok (.getfield 167, 3) := by decide +kernel
theorem dX3_isWellTold_198 : decode cX3_isWellTold 198 = .ok (.invokestatic 243, 3) := by decide +kernel
theorem dX3_isWellTold_201 : decode cX3_isWellTold 201 = .ok (.ifCond .eq 18, 3) := by decide +kernel
theorem dX3_isWellTold_204 : decode cX3_isWellTold 204 = .ok (.aload_n 1, 1) := by decide +kernel
theorem dX3_isWellTold_205 : decode cX3_isWellTold 205 = .ok (.getfield 164, 3) := by decide +kernel
theorem dX3_isWellTold_208 : decode cX3_isWellTold 208 = .ok (.aload_n 1, 1) := by decide +kernel
theorem dX3_isWellTold_209 : decode cX3_isWellTold 209 = .ok (.getfield 167, 3) := by decide +kernel
theorem dX3_isWellTold_212 : decode cX3_isWellTold 212 = .ok (.if_icmp .eq 7, 3) := by decide +kernel
theorem dX3_isWellTold_215 : decode cX3_isWellTold 215 = .ok (.iconst 1, 1) := by decide +kernel
theorem dX3_isWellTold_216 : decode cX3_isWellTold 216 = .ok (.goto 4, 3) := by decide +kernel
theorem dX3_isWellTold_219 : decode cX3_isWellTold 219 = .ok (.iconst 0, 1) := by decide +kernel
theorem dX3_isWellTold_220 : decode cX3_isWellTold 220 = .ok (.ireturn, 1) := by decide +kernel
theorem dX3_isWellTold_221 : decode cX3_isWellTold 221 = .ok (.aload_n 1, 1) := by decide +kernel
theorem dX3_isWellTold_222 : decode cX3_isWellTold 222 = .ok (.getfield 164, 3) := by decide +kernel
theorem dX3_isWellTold_225 : decode cX3_isWellTold 225 = .ok (.invokestatic 243, 3) := by decide +kernel
theorem dX3_isWellTold_228 : decode cX3_isWellTold 228 = .ok (.ireturn, 1) := by decide +kernel
theorem dX3_isWellTold_229 : decode cX3_isWellTold 229 = .ok (.aload_n 1, 1) := by decide +kernel
theorem dX3_isWellTold_230 : decode cX3_isWellTold 230 = .ok (.getfield 164, 3) := by decide +kernel
theorem dX3_isWellTold_233 : decode cX3_isWellTold 233 = .ok (.invokestatic 243, 3) := by decide +kernel
theorem dX3_isWellTold_236 : decode cX3_isWellTold 236 = .ok (.ifCond .eq 19, 3) := by decide +kernel
theorem dX3_isWellTold_239 : decode cX3_isWellTold 239 = .ok (.aload_n 1, 1) := by decide +kernel
theorem dX3_isWellTold_240 : decode cX3_isWellTold 240 = .ok (.getfield 167, 3) := by decide +kernel
theorem dX3_isWellTold_243 : decode cX3_isWellTold 243 = .ok (.iconst 1, 1) := by decide +kernel
theorem dX3_isWellTold_244 : decode cX3_isWellTold 244 = .ok (.iconst 2, 1) := by decide +kernel
theorem dX3_isWellTold_245 : decode cX3_isWellTold 245 = .ok (.invokestatic 251, 3) := by decide +kernel
theorem dX3_isWellTold_248 : decode cX3_isWellTold 248 = .ok (.ifCond .eq 7, 3) := by decide +kernel
theorem dX3_isWellTold_251 : decode cX3_isWellTold 251 = .ok (.iconst 1, 1) := by decide +kernel
theorem dX3_isWellTold_252 : decode cX3_isWellTold 252 = .ok (.goto 4, 3) := by decide +kernel
theorem dX3_isWellTold_255 : decode cX3_isWellTold 255 = .ok (.iconst 0, 1) := by decide +kernel
theorem dX3_isWellTold_256 : decode cX3_isWellTold 256 = .ok (.ireturn, 1) := by decide +kernel
theorem dX3_isWellTold_257 : decode cX3_isWellTold 257 = .ok (.aload_n 1, 1) := by decide +kernel
theorem dX3_isWellTold_258 : decode cX3_isWellTold 258 = .ok (.invokestatic 274, 3) := by decide +kernel
theorem dX3_isWellTold_261 : decode cX3_isWellTold 261 = .ok (.ireturn, 1) := by decide +kernel
theorem dX3_isWellTold_262 : decode cX3_isWellTold 262 = .ok (.iconst 0, 1) := by decide +kernel
theorem dX3_isWellTold_263 : decode cX3_isWellTold 263 = .ok (.ireturn, 1) := by decide +kernel
theorem dX3_isAtomOrNone_0 : decode cX3_isAtomOrNone 0 = .ok (.iload_n 0, 1) := by decide +kernel
theorem dX3_isAtomOrNone_1 : decode cX3_isAtomOrNone 1 = .ok (.iconst (-1), 1) := by decide +kernel
theorem dX3_isAtomOrNone_2 : decode cX3_isAtomOrNone 2 = .ok (.if_icmp .eq 10, 3) := by decide +kernel
theorem dX3_isAtomOrNone_5 : decode cX3_isAtomOrNone 5 = .ok (.iload_n 0, 1) := by decide +kernel
theorem dX3_isAtomOrNone_6 : decode cX3_isAtomOrNone 6 = .ok (.invokestatic 243, 3) := by decide +kernel
theorem dX3_isAtomOrNone_9 : decode cX3_isAtomOrNone 9 = .ok (.ifCond .eq 7, 3) := by decide +kernel
theorem dX3_isAtomOrNone_12 : decode cX3_isAtomOrNone 12 = .ok (.iconst 1, 1) := by decide +kernel
theorem dX3_isAtomOrNone_13 : decode cX3_isAtomOrNone 13 = .ok (.goto 4, 3) := by decide +kernel
theorem dX3_isAtomOrNone_16 : decode cX3_isAtomOrNone 16 = .ok (.iconst 0, 1) := by decide +kernel
theorem dX3_isAtomOrNone_17 : decode cX3_isAtomOrNone 17 = .ok (.ireturn, 1) := by decide +kernel
theorem dX3_isWellOffered_0 : decode cX3_isWellOffered 0 = .ok (.aload_n 0, 1) := by decide +kernel
theorem dX3_isWellOffered_1 : decode cX3_isWellOffered 1 = .ok (.getfield 164, 3) := by decide +kernel
theorem dX3_isWellOffered_4 : decode cX3_isWellOffered 4 = .ok (.iconst 0, 1) := by decide +kernel
theorem dX3_isWellOffered_5 : decode cX3_isWellOffered 5 = .ok (.sipush 255, 3) := by decide +kernel
theorem dX3_isWellOffered_8 : decode cX3_isWellOffered 8 = .ok (.invokestatic 251, 3) := by decide +kernel
theorem dX3_isWellOffered_11 : decode cX3_isWellOffered 11 = .ok (.ifCond .eq 53, 3) := by decide +kernel
theorem dX3_isWellOffered_14 : decode cX3_isWellOffered 14 = .ok (.aload_n 0, 1) := by decide +kernel
theorem dX3_isWellOffered_15 : decode cX3_isWellOffered 15 = .ok (.getfield 167, 3) := by decide +kernel
theorem dX3_isWellOffered_18 : decode cX3_isWellOffered 18 = .ok (.iconst 0, 1) := by decide +kernel
theorem dX3_isWellOffered_19 : decode cX3_isWellOffered 19 = .ok (.sipush 255, 3) := by decide +kernel
theorem dX3_isWellOffered_22 : decode cX3_isWellOffered 22 = .ok (.invokestatic 251, 3) := by decide +kernel
theorem dX3_isWellOffered_25 : decode cX3_isWellOffered 25 = .ok (.ifCond .eq 39, 3) := by decide +kernel
theorem dX3_isWellOffered_28 : decode cX3_isWellOffered 28 = .ok (.aload_n 0, 1) := by decide +kernel
theorem dX3_isWellOffered_29 : decode cX3_isWellOffered 29 = .ok (.getfield 164, 3) := by decide +kernel
theorem dX3_isWellOffered_32 : decode cX3_isWellOffered 32 = .ok (.aload_n 0, 1) := by decide +kernel
theorem dX3_isWellOffered_33 : decode cX3_isWellOffered 33 = .ok (.getfield 167, 3) := by decide +kernel
theorem dX3_isWellOffered_36 : decode cX3_isWellOffered 36 = .ok (.ior, 1) := by decide +kernel
theorem dX3_isWellOffered_37 : decode cX3_isWellOffered 37 = .ok (.ifCond .eq 27, 3) := by decide +kernel
theorem dX3_isWellOffered_40 : decode cX3_isWellOffered 40 = .ok (.aload_n 0, 1) := by decide +kernel
theorem dX3_isWellOffered_41 : decode cX3_isWellOffered 41 = .ok (.getfield 173, 3) := by decide +kernel
theorem dX3_isWellOffered_44 : decode cX3_isWellOffered 44 = .ok (.iconst 1, 1) := by decide +kernel
theorem dX3_isWellOffered_45 : decode cX3_isWellOffered 45 = .ok (.bipush 20, 2) := by decide +kernel
theorem dX3_isWellOffered_47 : decode cX3_isWellOffered 47 = .ok (.invokestatic 251, 3) := by decide +kernel
theorem dX3_isWellOffered_50 : decode cX3_isWellOffered 50 = .ok (.ifCond .eq 14, 3) := by decide +kernel
theorem dX3_isWellOffered_53 : decode cX3_isWellOffered 53 = .ok (.aload_n 0, 1) := by decide +kernel
theorem dX3_isWellOffered_54 : decode cX3_isWellOffered 54 = .ok (.invokevirtual 271, 3) := by decide +kernel
theorem dX3_isWellOffered_57 : decode cX3_isWellOffered 57 = .ok (.ifCond .eq 7, 3) := by decide +kernel
theorem dX3_isWellOffered_60 : decode cX3_isWellOffered 60 = .ok (.iconst 1, 1) := by decide +kernel
theorem dX3_isWellOffered_61 : decode cX3_isWellOffered 61 = .ok (.goto 4, 3) := by decide +kernel
theorem dX3_isWellOffered_64 : decode cX3_isWellOffered 64 = .ok (.iconst 0, 1) := by decide +kernel
theorem dX3_isWellOffered_65 : decode cX3_isWellOffered 65 = .ok (.ireturn, 1) := by decide +kernel
theorem dX3_canBeSaid_0 : decode cX3_canBeSaid 0 = .ok (.aload_n 1, 1) := by decide +kernel
theorem dX3_canBeSaid_1 : decode cX3_canBeSaid 1 = .ok (.getfield 105, 3) := by decide +kernel
theorem dX3_canBeSaid_4 : decode cX3_canBeSaid 4 = .ok (.getfield 111, 3) := by decide +kernel
theorem dX3_canBeSaid_7 : decode cX3_canBeSaid 7 = .ok (.ifnonnull 35, 3) := by decide +kernel
theorem dX3_canBeSaid_10 : decode cX3_canBeSaid 10 = .ok (.aload_n 0, 1) := by decide +kernel
theorem dX3_canBeSaid_11 : decode cX3_canBeSaid 11 = .ok (.getfield 22, 3) := by decide +kernel
theorem dX3_canBeSaid_14 : decode cX3_canBeSaid 14 = .ok (.invokevirtual 147, 3) := by decide +kernel
theorem dX3_canBeSaid_17 : decode cX3_canBeSaid 17 = .ok (.bipush 100, 2) := by decide +kernel
theorem dX3_canBeSaid_19 : decode cX3_canBeSaid 19 = .ok (.if_icmp .ge 23, 3) := by decide +kernel
theorem dX3_canBeSaid_22 : decode cX3_canBeSaid 22 = .ok (.aload_n 0, 1) := by decide +kernel
theorem dX3_canBeSaid_23 : decode cX3_canBeSaid 23 = .ok (.aload_n 1, 1) := by decide +kernel
theorem dX3_canBeSaid_24 : decode cX3_canBeSaid 24 = .ok (.invokevirtual 277, 3) := by decide +kernel
theorem dX3_canBeSaid_27 : decode cX3_canBeSaid 27 = .ok (.ifCond .eq 15, 3) := by decide +kernel
theorem dX3_canBeSaid_30 : decode cX3_canBeSaid 30 = .ok (.aload_n 0, 1) := by decide +kernel
theorem dX3_canBeSaid_31 : decode cX3_canBeSaid 31 = .ok (.aload_n 1, 1) := by decide +kernel
theorem dX3_canBeSaid_32 : decode cX3_canBeSaid 32 = .ok (.invokevirtual 280, 3) := by decide +kernel
theorem dX3_canBeSaid_35 : decode cX3_canBeSaid 35 = .ok (.ifCond .eq 7, 3) := by decide +kernel
theorem dX3_canBeSaid_38 : decode cX3_canBeSaid 38 = .ok (.iconst 1, 1) := by decide +kernel
theorem dX3_canBeSaid_39 : decode cX3_canBeSaid 39 = .ok (.goto 4, 3) := by decide +kernel
theorem dX3_canBeSaid_42 : decode cX3_canBeSaid 42 = .ok (.iconst 0, 1) := by decide +kernel
theorem dX3_canBeSaid_43 : decode cX3_canBeSaid 43 = .ok (.ireturn, 1) := by decide +kernel
theorem dX3_isPossible_0 : decode cX3_isPossible 0 = .ok (.aload_n 0, 1) := by decide +kernel
theorem dX3_isPossible_1 : decode cX3_isPossible 1 = .ok (.invokevirtual 283, 3) := by decide +kernel
theorem dX3_isPossible_4 : decode cX3_isPossible 4 = .ok (.astore_n 2, 1) := by decide +kernel
theorem dX3_isPossible_5 : decode cX3_isPossible 5 = .ok (.aload_n 1, 1) := by decide +kernel
theorem dX3_isPossible_6 : decode cX3_isPossible 6 = .ok (.getfield 161, 3) := by decide +kernel
theorem dX3_isPossible_9 : decode cX3_isPossible 9 = .ok (.tableswitch 181 0 13 #[71, 73, 91, 112, 181, 181, 181, 181, 181, 133, 133, 71, 154, 175], 71) := by decide +kernel
theorem dX3_isPossible_80 : decode cX3_isPossible 80 = .ok (.iconst 1, 1) := by decide +kernel
theorem dX3_isPossible_81 : decode cX3_isPossible 81 = .ok (.ireturn, 1) := by decide +kernel
theorem dX3_isPossible_82 : decode cX3_isPossible 82 = .ok (.aload_n 0, 1) := by decide +kernel
theorem dX3_isPossible_83 : decode cX3_isPossible 83 = .ok (.getfield 26, 3) := by decide +kernel
theorem dX3_isPossible_86 : decode cX3_isPossible 86 = .ok (.invokevirtual 147, 3) := by decide +kernel
theorem dX3_isPossible_89 : decode cX3_isPossible 89 = .ok (.bipush 6, 2) := by decide +kernel
theorem dX3_isPossible_91 : decode cX3_isPossible 91 = .ok (.if_icmp .ge 7, 3) := by decide +kernel
theorem dX3_isPossible_94 : decode cX3_isPossible 94 = .ok (.iconst 1, 1) := by decide +kernel
theorem dX3_isPossible_95 : decode cX3_isPossible 95 = .ok (.goto 4, 3) := by decide +kernel
theorem dX3_isPossible_98 : decode cX3_isPossible 98 = .ok (.iconst 0, 1) := by decide +kernel
theorem dX3_isPossible_99 : decode cX3_isPossible 99 = .ok (.ireturn, 1) := by decide +kernel
theorem dX3_isPossible_100 : decode cX3_isPossible 100 = .ok (.aload_n 2, 1) := by decide +kernel
theorem dX3_isPossible_101 : decode cX3_isPossible 101 = .ok (.ifnull 18, 3) := by decide +kernel
theorem dX3_isPossible_104 : decode cX3_isPossible 104 = .ok (.aload_n 2, 1) := by decide +kernel
theorem dX3_isPossible_105 : decode cX3_isPossible 105 = .ok (.aload_n 1, 1) := by decide +kernel
theorem dX3_isPossible_106 : decode cX3_isPossible 106 = .ok (.getfield 105, 3) := by decide +kernel
theorem dX3_isPossible_109 : decode cX3_isPossible 109 = .ok (.invokevirtual 286, 3) := by decide +kernel
theorem dX3_isPossible_112 : decode cX3_isPossible 112 = .ok (.ifCond .eq 7, 3) := by decide +kernel
theorem dX3_isPossible_115 : decode cX3_isPossible 115 = .ok (.iconst 1, 1) := by decide +kernel
theorem dX3_isPossible_116 : decode cX3_isPossible 116 = .ok (.goto 4, 3) := by decide +kernel
theorem dX3_isPossible_119 : decode cX3_isPossible 119 = .ok (.iconst 0, 1) := by decide +kernel
theorem dX3_isPossible_120 : decode cX3_isPossible 120 = .ok (.ireturn, 1) := by decide +kernel
theorem dX3_isPossible_121 : decode cX3_isPossible 121 = .ok (.aload_n 2, 1) := by decide +kernel
theorem dX3_isPossible_122 : decode cX3_isPossible 122 = .ok (.ifnull 18, 3) := by decide +kernel
theorem dX3_isPossible_125 : decode cX3_isPossible 125 = .ok (.aload_n 2, 1) := by decide +kernel
theorem dX3_isPossible_126 : decode cX3_isPossible 126 = .ok (.getfield 105, 3) := by decide +kernel
theorem dX3_isPossible_129 : decode cX3_isPossible 129 = .ok (.aload_n 1, 1) := by decide +kernel
theorem dX3_isPossible_130 : decode cX3_isPossible 130 = .ok (.getfield 105, 3) := by decide +kernel
theorem dX3_isPossible_133 : decode cX3_isPossible 133 = .ok (.if_acmp .ne 7, 3) := by decide +kernel
theorem dX3_isPossible_136 : decode cX3_isPossible 136 = .ok (.iconst 1, 1) := by decide +kernel
theorem dX3_isPossible_137 : decode cX3_isPossible 137 = .ok (.goto 4, 3) := by decide +kernel
theorem dX3_isPossible_140 : decode cX3_isPossible 140 = .ok (.iconst 0, 1) := by decide +kernel
theorem dX3_isPossible_141 : decode cX3_isPossible 141 = .ok (.ireturn, 1) := by decide +kernel
theorem dX3_isPossible_142 : decode cX3_isPossible 142 = .ok (.aload_n 1, 1) := by decide +kernel
theorem dX3_isPossible_143 : decode cX3_isPossible 143 = .ok (.getfield 105, 3) := by decide +kernel
theorem dX3_isPossible_146 : decode cX3_isPossible 146 = .ok (.getfield 190, 3) := by decide +kernel
theorem dX3_isPossible_149 : decode cX3_isPossible 149 = .ok (.aload_n 1, 1) := by decide +kernel
theorem dX3_isPossible_150 : decode cX3_isPossible 150 = .ok (.getfield 164, 3) := by decide +kernel
theorem dX3_isPossible_153 : decode cX3_isPossible 153 = .ok (.iaload, 1) := by decide +kernel
theorem dX3_isPossible_154 : decode cX3_isPossible 154 = .ok (.ifCond .eq 7, 3) := by decide +kernel
theorem dX3_isPossible_157 : decode cX3_isPossible 157 = .ok (.iconst 1, 1) := by decide +kernel
theorem dX3_isPossible_158 : decode cX3_isPossible 158 = .ok (.goto 4, 3) := by decide +kernel
theorem dX3_isPossible_161 : decode cX3_isPossible 161 = .ok (.iconst 0, 1) := by decide +kernel
theorem dX3_isPossible_162 : decode cX3_isPossible 162 = .ok (.ireturn, 1) := by decide +kernel
theorem dX3_isPossible_163 : decode cX3_isPossible 163 = .ok (.aload_n 1, 1) := by decide +kernel
theorem dX3_isPossible_164 : decode cX3_isPossible 164 = .ok (.getfield 105, 3) := by decide +kernel
theorem dX3_isPossible_167 : decode cX3_isPossible 167 = .ok (.getfield 209, 3) := by decide +kernel
theorem dX3_isPossible_170 : decode cX3_isPossible 170 = .ok (.aload_n 1, 1) := by decide +kernel
theorem dX3_isPossible_171 : decode cX3_isPossible 171 = .ok (.getfield 164, 3) := by decide +kernel
theorem dX3_isPossible_174 : decode cX3_isPossible 174 = .ok (.aaload, 1) := by decide +kernel
theorem dX3_isPossible_175 : decode cX3_isPossible 175 = .ok (.ifnull 7, 3) := by decide +kernel
theorem dX3_isPossible_178 : decode cX3_isPossible 178 = .ok (.iconst 1, 1) := by decide +kernel
theorem dX3_isPossible_179 : decode cX3_isPossible 179 = .ok (.goto 4, 3) := by decide +kernel
theorem dX3_isPossible_182 : decode cX3_isPossible 182 = .ok (.iconst 0, 1) := by decide +kernel
theorem dX3_isPossible_183 : decode cX3_isPossible 183 = .ok (.ireturn, 1) := by decide +kernel
theorem dX3_isPossible_184 : decode cX3_isPossible 184 = .ok (.aload_n 0, 1) := by decide +kernel
theorem dX3_isPossible_185 : decode cX3_isPossible 185 = .ok (.aload_n 1, 1) := by decide +kernel
theorem dX3_isPossible_186 : decode cX3_isPossible 186 = .ok (.invokevirtual 290, 3) := by decide +kernel
theorem dX3_isPossible_189 : decode cX3_isPossible 189 = .ok (.ireturn, 1) := by decide +kernel
theorem dX3_isPossible_190 : decode cX3_isPossible 190 = .ok (.aload_n 0, 1) := by decide +kernel
theorem dX3_isPossible_191 : decode cX3_isPossible 191 = .ok (.aload_n 1, 1) := by decide +kernel
theorem dX3_isPossible_192 : decode cX3_isPossible 192 = .ok (.getfield 164, 3) := by decide +kernel
theorem dX3_isPossible_195 : decode cX3_isPossible 195 = .ok (.invokevirtual 151, 3) := by decide +kernel
theorem dX3_isPossible_198 : decode cX3_isPossible 198 = .ok (.astore_n 3, 1) := by decide +kernel
theorem dX3_isPossible_199 : decode cX3_isPossible 199 = .ok (.aload_n 3, 1) := by decide +kernel
theorem dX3_isPossible_200 : decode cX3_isPossible 200 = .ok (.ifnull 23, 3) := by decide +kernel
theorem dX3_isPossible_203 : decode cX3_isPossible 203 = .ok (.aload_n 3, 1) := by decide +kernel
theorem dX3_isPossible_204 : decode cX3_isPossible 204 = .ok (.getfield 176, 3) := by decide +kernel
theorem dX3_isPossible_207 : decode cX3_isPossible 207 = .ok (.iconst 1, 1) := by decide +kernel
theorem dX3_isPossible_208 : decode cX3_isPossible 208 = .ok (.if_icmp .ne 15, 3) := by decide +kernel
theorem dX3_isPossible_211 : decode cX3_isPossible 211 = .ok (.aload_n 1, 1) := by decide +kernel
theorem dX3_isPossible_212 : decode cX3_isPossible 212 = .ok (.aload_n 3, 1) := by decide +kernel
theorem dX3_isPossible_213 : decode cX3_isPossible 213 = .ok (.invokestatic 293, 3) := by decide +kernel
theorem dX3_isPossible_216 : decode cX3_isPossible 216 = .ok (.ifCond .eq 7, 3) := by decide +kernel
theorem dX3_isPossible_219 : decode cX3_isPossible 219 = .ok (.iconst 1, 1) := by decide +kernel
theorem dX3_isPossible_220 : decode cX3_isPossible 220 = .ok (.goto 4, 3) := by decide +kernel
theorem dX3_isPossible_223 : decode cX3_isPossible 223 = .ok (.iconst 0, 1) := by decide +kernel
theorem dX3_isPossible_224 : decode cX3_isPossible 224 = .ok (.ireturn, 1) := by decide +kernel
theorem dX3_isPossibleReply_0 : decode cX3_isPossibleReply 0 = .ok (.aload_n 1, 1) := by decide +kernel
theorem dX3_isPossibleReply_1 : decode cX3_isPossibleReply 1 = .ok (.getfield 187, 3) := by decide +kernel
theorem dX3_isPossibleReply_4 : decode cX3_isPossibleReply 4 = .ok (.aload_n 0, 1) := by decide +kernel
theorem dX3_isPossibleReply_5 : decode cX3_isPossibleReply 5 = .ok (.getfield 105, 3) := by decide +kernel
theorem dX3_isPossibleReply_8 : decode cX3_isPossibleReply 8 = .ok (.getfield 160, 3) := by decide +kernel
theorem dX3_isPossibleReply_11 : decode cX3_isPossibleReply 11 = .ok (.iaload, 1) := by decide +kernel
theorem dX3_isPossibleReply_12 : decode cX3_isPossibleReply 12 = .ok (.istore_n 2, 1) := by decide +kernel
theorem dX3_isPossibleReply_13 : decode cX3_isPossibleReply 13 = .ok (.iload_n 2, 1) := by decide +kernel
theorem dX3_isPossibleReply_14 : decode cX3_isPossibleReply 14 = .ok (.iconst 3, 1) := by decide +kernel
theorem dX3_isPossibleReply_15 : decode cX3_isPossibleReply 15 = .ok (.if_icmp .eq 8, 3) := by decide +kernel
theorem dX3_isPossibleReply_18 : decode cX3_isPossibleReply 18 = .ok (.iload_n 2, 1) := by decide +kernel
theorem dX3_isPossibleReply_19 : decode cX3_isPossibleReply 19 = .ok (.iconst 4, 1) := by decide +kernel
theorem dX3_isPossibleReply_20 : decode cX3_isPossibleReply 20 = .ok (.if_icmp .ne 7, 3) := by decide +kernel
theorem dX3_isPossibleReply_23 : decode cX3_isPossibleReply 23 = .ok (.iconst 1, 1) := by decide +kernel
theorem dX3_isPossibleReply_24 : decode cX3_isPossibleReply 24 = .ok (.goto 4, 3) := by decide +kernel
theorem dX3_isPossibleReply_27 : decode cX3_isPossibleReply 27 = .ok (.iconst 0, 1) := by decide +kernel
theorem dX3_isPossibleReply_28 : decode cX3_isPossibleReply 28 = .ok (.istore_n 3, 1) := by decide +kernel
theorem dX3_isPossibleReply_29 : decode cX3_isPossibleReply 29 = .ok (.aload_n 0, 1) := by decide +kernel
theorem dX3_isPossibleReply_30 : decode cX3_isPossibleReply 30 = .ok (.getfield 161, 3) := by decide +kernel
theorem dX3_isPossibleReply_33 : decode cX3_isPossibleReply 33 = .ok (.tableswitch 155 4 15 #[63, 74, 85, 110, 110, 155, 155, 155, 155, 155, 127, 127], 63) := by decide +kernel
theorem dX3_isPossibleReply_96 : decode cX3_isPossibleReply 96 = .ok (.iload_n 2, 1) := by decide +kernel
theorem dX3_isPossibleReply_97 : decode cX3_isPossibleReply 97 = .ok (.iconst 3, 1) := by decide +kernel
theorem dX3_isPossibleReply_98 : decode cX3_isPossibleReply 98 = .ok (.if_icmp .ne 7, 3) := by decide +kernel
theorem dX3_isPossibleReply_101 : decode cX3_isPossibleReply 101 = .ok (.iconst 1, 1) := by decide +kernel
theorem dX3_isPossibleReply_102 : decode cX3_isPossibleReply 102 = .ok (.goto 4, 3) := by decide +kernel
theorem dX3_isPossibleReply_105 : decode cX3_isPossibleReply 105 = .ok (.iconst 0, 1) := by decide +kernel
theorem dX3_isPossibleReply_106 : decode cX3_isPossibleReply 106 = .ok (.ireturn, 1) := by decide +kernel
theorem dX3_isPossibleReply_107 : decode cX3_isPossibleReply 107 = .ok (.iload_n 2, 1) := by decide +kernel
theorem dX3_isPossibleReply_108 : decode cX3_isPossibleReply 108 = .ok (.iconst 1, 1) := by decide +kernel
theorem dX3_isPossibleReply_109 : decode cX3_isPossibleReply 109 = .ok (.if_icmp .ne 7, 3) := by decide +kernel
theorem dX3_isPossibleReply_112 : decode cX3_isPossibleReply 112 = .ok (.iconst 1, 1) := by decide +kernel
theorem dX3_isPossibleReply_113 : decode cX3_isPossibleReply 113 = .ok (.goto 4, 3) := by decide +kernel
theorem dX3_isPossibleReply_116 : decode cX3_isPossibleReply 116 = .ok (.iconst 0, 1) := by decide +kernel
theorem dX3_isPossibleReply_117 : decode cX3_isPossibleReply 117 = .ok (.ireturn, 1) := by decide +kernel
theorem dX3_isPossibleReply_118 : decode cX3_isPossibleReply 118 = .ok (.aload_n 1, 1) := by decide +kernel
theorem dX3_isPossibleReply_119 : decode cX3_isPossibleReply 119 = .ok (.getfield 105, 3) := by decide +kernel
theorem dX3_isPossibleReply_122 : decode cX3_isPossibleReply 122 = .ok (.aload_n 0, 1) := by decide +kernel
theorem dX3_isPossibleReply_123 : decode cX3_isPossibleReply 123 = .ok (.getfield 105, 3) := by decide +kernel
theorem dX3_isPossibleReply_126 : decode cX3_isPossibleReply 126 = .ok (.if_acmp .ne 15, 3) := by decide +kernel
theorem dX3_isPossibleReply_129 : decode cX3_isPossibleReply 129 = .ok (.aload_n 1, 1) := by decide +kernel
theorem dX3_isPossibleReply_130 : decode cX3_isPossibleReply 130 = .ok (.iconst 1, 1) := by decide +kernel
theorem dX3_isPossibleReply_131 : decode cX3_isPossibleReply 131 = .ok (.invokevirtual 297, 3) := by decide +kernel
theorem dX3_isPossibleReply_134 : decode cX3_isPossibleReply 134 = .ok (.ifCond .eq 7, 3) := by decide +kernel
theorem dX3_isPossibleReply_137 : decode cX3_isPossibleReply 137 = .ok (.iconst 1, 1) := by decide +kernel
theorem dX3_isPossibleReply_138 : decode cX3_isPossibleReply 138 = .ok (.goto 4, 3) := by decide +kernel
theorem dX3_isPossibleReply_141 : decode cX3_isPossibleReply 141 = .ok (.iconst 0, 1) := by decide +kernel
theorem dX3_isPossibleReply_142 : decode cX3_isPossibleReply 142 = .ok (.ireturn, 1) := by decide +kernel
theorem dX3_isPossibleReply_143 : decode cX3_isPossibleReply 143 = .ok (.aload_n 1, 1) := by decide +kernel
theorem dX3_isPossibleReply_144 : decode cX3_isPossibleReply 144 = .ok (.invokevirtual 300, 3) := by decide +kernel
theorem dX3_isPossibleReply_147 : decode cX3_isPossibleReply 147 = .ok (.ifCond .eq 11, 3) := by decide +kernel
theorem dX3_isPossibleReply_150 : decode cX3_isPossibleReply 150 = .ok (.iload_n 3, 1) := by decide +kernel
theorem dX3_isPossibleReply_151 : decode cX3_isPossibleReply 151 = .ok (.ifCond .eq 7, 3) := by decide +kernel
theorem dX3_isPossibleReply_154 : decode cX3_isPossibleReply 154 = .ok (.iconst 1, 1) := by decide +kernel
theorem dX3_isPossibleReply_155 : decode cX3_isPossibleReply 155 = .ok (.goto 4, 3) := by decide +kernel
theorem dX3_isPossibleReply_158 : decode cX3_isPossibleReply 158 = .ok (.iconst 0, 1) := by decide +kernel
theorem dX3_isPossibleReply_159 : decode cX3_isPossibleReply 159 = .ok (.ireturn, 1) := by decide +kernel
theorem dX3_isPossibleReply_160 : decode cX3_isPossibleReply 160 = .ok (.aload_n 1, 1) := by decide +kernel
theorem dX3_isPossibleReply_161 : decode cX3_isPossibleReply 161 = .ok (.getfield 182, 3) := by decide +kernel
theorem dX3_isPossibleReply_164 : decode cX3_isPossibleReply 164 = .ok (.ifCond .eq 22, 3) := by decide +kernel
theorem dX3_isPossibleReply_167 : decode cX3_isPossibleReply 167 = .ok (.aload_n 1, 1) := by decide +kernel
theorem dX3_isPossibleReply_168 : decode cX3_isPossibleReply 168 = .ok (.aload_n 0, 1) := by decide +kernel
theorem dX3_isPossibleReply_169 : decode cX3_isPossibleReply 169 = .ok (.getfield 105, 3) := by decide +kernel
theorem dX3_isPossibleReply_172 : decode cX3_isPossibleReply 172 = .ok (.invokevirtual 286, 3) := by decide +kernel
theorem dX3_isPossibleReply_175 : decode cX3_isPossibleReply 175 = .ok (.ifCond .eq 11, 3) := by decide +kernel
theorem dX3_isPossibleReply_178 : decode cX3_isPossibleReply 178 = .ok (.iload_n 3, 1) := by decide +kernel
theorem dX3_isPossibleReply_179 : decode cX3_isPossibleReply 179 = .ok (.ifCond .eq 7, 3) := by decide +kernel
theorem dX3_isPossibleReply_182 : decode cX3_isPossibleReply 182 = .ok (.iconst 1, 1) := by decide +kernel
theorem dX3_isPossibleReply_183 : decode cX3_isPossibleReply 183 = .ok (.goto 4, 3) := by decide +kernel
theorem dX3_isPossibleReply_186 : decode cX3_isPossibleReply 186 = .ok (.iconst 0, 1) := by decide +kernel
theorem dX3_isPossibleReply_187 : decode cX3_isPossibleReply 187 = .ok (.ireturn, 1) := by decide +kernel
theorem dX3_isPossibleReply_188 : decode cX3_isPossibleReply 188 = .ok (.iconst 0, 1) := by decide +kernel
theorem dX3_isPossibleReply_189 : decode cX3_isPossibleReply 189 = .ok (.ireturn, 1) := by decide +kernel
theorem dX3_isPermitted_0 : decode cX3_isPermitted 0 = .ok (.aload_n 0, 1) := by decide +kernel
theorem dX3_isPermitted_1 : decode cX3_isPermitted 1 = .ok (.getfield 85, 3) := by decide +kernel
theorem dX3_isPermitted_4 : decode cX3_isPermitted 4 = .ok (.ifCond .eq 28, 3) := by decide +kernel
theorem dX3_isPermitted_7 : decode cX3_isPermitted 7 = .ok (.aload_n 1, 1) := by decide +kernel
theorem dX3_isPermitted_8 : decode cX3_isPermitted 8 = .ok (.getfield 161, 3) := by decide +kernel
theorem dX3_isPermitted_11 : decode cX3_isPermitted 11 = .ok (.iconst 4, 1) := by decide +kernel
theorem dX3_isPermitted_12 : decode cX3_isPermitted 12 = .ok (.if_icmp .eq 20, 3) := by decide +kernel
theorem dX3_isPermitted_15 : decode cX3_isPermitted 15 = .ok (.aload_n 1, 1) := by decide +kernel
theorem dX3_isPermitted_16 : decode cX3_isPermitted 16 = .ok (.getfield 161, 3) := by decide +kernel
theorem dX3_isPermitted_19 : decode cX3_isPermitted 19 = .ok (.iconst 5, 1) := by decide +kernel
theorem dX3_isPermitted_20 : decode cX3_isPermitted 20 = .ok (.if_icmp .eq 12, 3) := by decide +kernel
theorem dX3_isPermitted_23 : decode cX3_isPermitted 23 = .ok (.aload_n 1, 1) := by decide +kernel
theorem dX3_isPermitted_24 : decode cX3_isPermitted 24 = .ok (.getfield 161, 3) := by decide +kernel
theorem dX3_isPermitted_27 : decode cX3_isPermitted 27 = .ok (.bipush 6, 2) := by decide +kernel
theorem dX3_isPermitted_29 : decode cX3_isPermitted 29 = .ok (.if_icmp .ne 5, 3) := by decide +kernel
theorem dX3_isPermitted_32 : decode cX3_isPermitted 32 = .ok (.iconst 1, 1) := by decide +kernel
theorem dX3_isPermitted_33 : decode cX3_isPermitted 33 = .ok (.ireturn, 1) := by decide +kernel
theorem dX3_isPermitted_34 : decode cX3_isPermitted 34 = .ok (.aload_n 0, 1) := by decide +kernel
theorem dX3_isPermitted_35 : decode cX3_isPermitted 35 = .ok (.invokevirtual 283, 3) := by decide +kernel
theorem dX3_isPermitted_38 : decode cX3_isPermitted 38 = .ok (.astore_n 2, 1) := by decide +kernel
theorem dX3_isPermitted_39 : decode cX3_isPermitted 39 = .ok (.aload_n 2, 1) := by decide +kernel
theorem dX3_isPermitted_40 : decode cX3_isPermitted 40 = .ok (.ifnull 46, 3) := by decide +kernel
theorem dX3_isPermitted_43 : decode cX3_isPermitted 43 = .ok (.aload_n 2, 1) := by decide +kernel
theorem dX3_isPermitted_44 : decode cX3_isPermitted 44 = .ok (.aload_n 1, 1) := by decide +kernel
theorem dX3_isPermitted_45 : decode cX3_isPermitted 45 = .ok (.getfield 105, 3) := by decide +kernel
theorem dX3_isPermitted_48 : decode cX3_isPermitted 48 = .ok (.invokevirtual 286, 3) := by decide +kernel
theorem dX3_isPermitted_51 : decode cX3_isPermitted 51 = .ok (.ifCond .eq 35, 3) := by decide +kernel
theorem dX3_isPermitted_54 : decode cX3_isPermitted 54 = .ok (.aload_n 1, 1) := by decide +kernel
theorem dX3_isPermitted_55 : decode cX3_isPermitted 55 = .ok (.getfield 161, 3) := by decide +kernel
theorem dX3_isPermitted_58 : decode cX3_isPermitted 58 = .ok (.iconst 2, 1) := by decide +kernel
theorem dX3_isPermitted_59 : decode cX3_isPermitted 59 = .ok (.if_icmp .eq 21, 3) := by decide +kernel
theorem dX3_isPermitted_62 : decode cX3_isPermitted 62 = .ok (.aload_n 1, 1) := by decide +kernel
theorem dX3_isPermitted_63 : decode cX3_isPermitted 63 = .ok (.getfield 161, 3) := by decide +kernel
theorem dX3_isPermitted_66 : decode cX3_isPermitted 66 = .ok (.ifCond .ne 18, 3) := by decide +kernel
theorem dX3_isPermitted_69 : decode cX3_isPermitted 69 = .ok (.aload_n 1, 1) := by decide +kernel
theorem dX3_isPermitted_70 : decode cX3_isPermitted 70 = .ok (.getfield 164, 3) := by decide +kernel
theorem dX3_isPermitted_73 : decode cX3_isPermitted 73 = .ok (.aload_n 2, 1) := by decide +kernel
theorem dX3_isPermitted_74 : decode cX3_isPermitted 74 = .ok (.getfield 164, 3) := by decide +kernel
theorem dX3_isPermitted_77 : decode cX3_isPermitted 77 = .ok (.if_icmp .ne 7, 3) := by decide +kernel
theorem dX3_isPermitted_80 : decode cX3_isPermitted 80 = .ok (.iconst 1, 1) := by decide +kernel
theorem dX3_isPermitted_81 : decode cX3_isPermitted 81 = .ok (.goto 4, 3) := by decide +kernel
theorem dX3_isPermitted_84 : decode cX3_isPermitted 84 = .ok (.iconst 0, 1) := by decide +kernel
theorem dX3_isPermitted_85 : decode cX3_isPermitted 85 = .ok (.ireturn, 1) := by decide +kernel
theorem dX3_isPermitted_86 : decode cX3_isPermitted 86 = .ok (.aload_n 1, 1) := by decide +kernel
theorem dX3_isPermitted_87 : decode cX3_isPermitted 87 = .ok (.getfield 105, 3) := by decide +kernel
theorem dX3_isPermitted_90 : decode cX3_isPermitted 90 = .ok (.invokevirtual 303, 3) := by decide +kernel
theorem dX3_isPermitted_93 : decode cX3_isPermitted 93 = .ok (.istore_n 3, 1) := by decide +kernel
theorem dX3_isPermitted_94 : decode cX3_isPermitted 94 = .ok (.iload_n 3, 1) := by decide +kernel
theorem dX3_isPermitted_95 : decode cX3_isPermitted 95 = .ok (.ifCond .ne 5, 3) := by decide +kernel
theorem dX3_isPermitted_98 : decode cX3_isPermitted 98 = .ok (.iconst 1, 1) := by decide +kernel
theorem dX3_isPermitted_99 : decode cX3_isPermitted 99 = .ok (.ireturn, 1) := by decide +kernel
theorem dX3_isPermitted_100 : decode cX3_isPermitted 100 = .ok (.aload_n 1, 1) := by decide +kernel
theorem dX3_isPermitted_101 : decode cX3_isPermitted 101 = .ok (.getfield 161, 3) := by decide +kernel
theorem dX3_isPermitted_104 : decode cX3_isPermitted 104 = .ok (.bipush 9, 2) := by decide +kernel
theorem dX3_isPermitted_106 : decode cX3_isPermitted 106 = .ok (.if_icmp .eq 12, 3) := by decide +kernel
theorem dX3_isPermitted_109 : decode cX3_isPermitted 109 = .ok (.aload_n 1, 1) := by decide +kernel
theorem dX3_isPermitted_110 : decode cX3_isPermitted 110 = .ok (.getfield 161, 3) := by decide +kernel
theorem dX3_isPermitted_113 : decode cX3_isPermitted 113 = .ok (.bipush 10, 2) := by decide +kernel
theorem dX3_isPermitted_115 : decode cX3_isPermitted 115 = .ok (.if_icmp .ne 18, 3) := by decide +kernel
theorem dX3_isPermitted_118 : decode cX3_isPermitted 118 = .ok (.iload_n 3, 1) := by decide +kernel
theorem dX3_isPermitted_119 : decode cX3_isPermitted 119 = .ok (.aload_n 1, 1) := by decide +kernel
theorem dX3_isPermitted_120 : decode cX3_isPermitted 120 = .ok (.getfield 164, 3) := by decide +kernel
theorem dX3_isPermitted_123 : decode cX3_isPermitted 123 = .ok (.invokestatic 49, 3) := by decide +kernel
theorem dX3_isPermitted_126 : decode cX3_isPermitted 126 = .ok (.ifCond .eq 7, 3) := by decide +kernel
theorem dX3_isPermitted_129 : decode cX3_isPermitted 129 = .ok (.iconst 1, 1) := by decide +kernel
theorem dX3_isPermitted_130 : decode cX3_isPermitted 130 = .ok (.goto 4, 3) := by decide +kernel
theorem dX3_isPermitted_133 : decode cX3_isPermitted 133 = .ok (.iconst 0, 1) := by decide +kernel
theorem dX3_isPermitted_134 : decode cX3_isPermitted 134 = .ok (.ireturn, 1) := by decide +kernel
theorem dX3_carryOutAcks_0 : decode cX3_carryOutAcks 0 = .ok (.iconst 0, 1) := by decide +kernel
theorem dX3_carryOutAcks_1 : decode cX3_carryOutAcks 1 = .ok (.istore_n 1, 1) := by decide +kernel
theorem dX3_carryOutAcks_2 : decode cX3_carryOutAcks 2 = .ok (.iload_n 1, 1) := by decide +kernel
theorem dX3_carryOutAcks_3 : decode cX3_carryOutAcks 3 = .ok (.iconst 4, 1) := by decide +kernel
theorem dX3_carryOutAcks_4 : decode cX3_carryOutAcks 4 = .ok (.if_icmp .ge 36, 3) := by decide +kernel
theorem dX3_carryOutAcks_7 : decode cX3_carryOutAcks 7 = .ok (.aload_n 0, 1) := by decide +kernel
theorem dX3_carryOutAcks_8 : decode cX3_carryOutAcks 8 = .ok (.getfield 11, 3) := by decide +kernel
theorem dX3_carryOutAcks_11 : decode cX3_carryOutAcks 11 = .ok (.iload_n 1, 1) := by decide +kernel
theorem dX3_carryOutAcks_12 : decode cX3_carryOutAcks 12 = .ok (.aaload, 1) := by decide +kernel
theorem dX3_carryOutAcks_13 : decode cX3_carryOutAcks 13 = .ok (.getfield 111, 3) := by decide +kernel
theorem dX3_carryOutAcks_16 : decode cX3_carryOutAcks 16 = .ok (.astore_n 2, 1) := by decide +kernel
theorem dX3_carryOutAcks_17 : decode cX3_carryOutAcks 17 = .ok (.aload_n 2, 1) := by decide +kernel
theorem dX3_carryOutAcks_18 : decode cX3_carryOutAcks 18 = .ok (.ifnull 16, 3) := by decide +kernel
theorem dX3_carryOutAcks_21 : decode cX3_carryOutAcks 21 = .ok (.aload_n 2, 1) := by decide +kernel
theorem dX3_carryOutAcks_22 : decode cX3_carryOutAcks 22 = .ok (.getfield 161, 3) := by decide +kernel
theorem dX3_carryOutAcks_25 : decode cX3_carryOutAcks 25 = .ok (.iconst 4, 1) := by decide +kernel
theorem dX3_carryOutAcks_26 : decode cX3_carryOutAcks 26 = .ok (.if_icmp .ne 8, 3) := by decide +kernel
theorem dX3_carryOutAcks_29 : decode cX3_carryOutAcks 29 = .ok (.aload_n 0, 1) := by decide +kernel
theorem dX3_carryOutAcks_30 : decode cX3_carryOutAcks 30 = .ok (.aload_n 2, 1) := by decide +kernel
theorem dX3_carryOutAcks_31 : decode cX3_carryOutAcks 31 = .ok (.invokevirtual 125, 3) := by decide +kernel
theorem dX3_carryOutAcks_34 : decode cX3_carryOutAcks 34 = .ok (.iinc 1 1, 3) := by decide +kernel
theorem dX3_carryOutAcks_37 : decode cX3_carryOutAcks 37 = .ok (.goto (-35), 3) := by decide +kernel
theorem dX3_carryOutAcks_40 : decode cX3_carryOutAcks 40 = .ok (.return_, 1) := by decide +kernel
theorem dX3_turnWithFloor_0 : decode cX3_turnWithFloor 0 = .ok (.aload_n 0, 1) := by decide +kernel
theorem dX3_turnWithFloor_1 : decode cX3_turnWithFloor 1 = .ok (.invokevirtual 306, 3) := by decide +kernel
theorem dX3_turnWithFloor_4 : decode cX3_turnWithFloor 4 = .ok (.istore_n 1, 1) := by decide +kernel
theorem dX3_turnWithFloor_5 : decode cX3_turnWithFloor 5 = .ok (.aconst_null, 1) := by decide +kernel
theorem dX3_turnWithFloor_6 : decode cX3_turnWithFloor 6 = .ok (.astore_n 2, 1) := by decide +kernel
theorem dX3_turnWithFloor_7 : decode cX3_turnWithFloor 7 = .ok (.iconst 0, 1) := by decide +kernel
theorem dX3_turnWithFloor_8 : decode cX3_turnWithFloor 8 = .ok (.istore_n 3, 1) := by decide +kernel
theorem dX3_turnWithFloor_9 : decode cX3_turnWithFloor 9 = .ok (.iload_n 3, 1) := by decide +kernel
theorem dX3_turnWithFloor_10 : decode cX3_turnWithFloor 10 = .ok (.iconst 4, 1) := by decide +kernel
theorem dX3_turnWithFloor_11 : decode cX3_turnWithFloor 11 = .ok (.if_icmp .ge 66, 3) := by decide +kernel
theorem dX3_turnWithFloor_14 : decode cX3_turnWithFloor 14 = .ok (.aload_n 0, 1) := by decide +kernel
theorem dX3_turnWithFloor_15 : decode cX3_turnWithFloor 15 = .ok (.getfield 11, 3) := by decide +kernel
theorem dX3_turnWithFloor_18 : decode cX3_turnWithFloor 18 = .ok (.iload_n 3, 1) := by decide +kernel
theorem dX3_turnWithFloor_19 : decode cX3_turnWithFloor 19 = .ok (.aaload, 1) := by decide +kernel
theorem dX3_turnWithFloor_20 : decode cX3_turnWithFloor 20 = .ok (.getfield 111, 3) := by decide +kernel
theorem dX3_turnWithFloor_23 : decode cX3_turnWithFloor 23 = .ok (.astore 4, 2) := by decide +kernel
theorem dX3_turnWithFloor_25 : decode cX3_turnWithFloor 25 = .ok (.aload 4, 2) := by decide +kernel
theorem dX3_turnWithFloor_27 : decode cX3_turnWithFloor 27 = .ok (.ifnull 44, 3) := by decide +kernel
theorem dX3_turnWithFloor_30 : decode cX3_turnWithFloor 30 = .ok (.aload 4, 2) := by decide +kernel
theorem dX3_turnWithFloor_32 : decode cX3_turnWithFloor 32 = .ok (.getfield 176, 3) := by decide +kernel
theorem dX3_turnWithFloor_35 : decode cX3_turnWithFloor 35 = .ok (.ifCond .ne 36, 3) := by decide +kernel
theorem dX3_turnWithFloor_38 : decode cX3_turnWithFloor 38 = .ok (.iload_n 3, 1) := by decide +kernel
theorem dX3_turnWithFloor_39 : decode cX3_turnWithFloor 39 = .ok (.iload_n 1, 1) := by decide +kernel
theorem dX3_turnWithFloor_40 : decode cX3_turnWithFloor 40 = .ok (.if_icmp .ne 6, 3) := by decide +kernel
theorem dX3_turnWithFloor_43 : decode cX3_turnWithFloor 43 = .ok (.aload 4, 2) := by decide +kernel
theorem dX3_turnWithFloor_45 : decode cX3_turnWithFloor 45 = .ok (.areturn, 1) := by decide +kernel
theorem dX3_turnWithFloor_46 : decode cX3_turnWithFloor 46 = .ok (.aload_n 2, 1) := by decide +kernel
theorem dX3_turnWithFloor_47 : decode cX3_turnWithFloor 47 = .ok (.ifnull 21, 3) := by decide +kernel
theorem dX3_turnWithFloor_50 : decode cX3_turnWithFloor 50 = .ok (.aload 4, 2) := by decide +kernel
theorem dX3_turnWithFloor_52 : decode cX3_turnWithFloor 52 = .ok (.getfield 105, 3) := by decide +kernel
theorem dX3_turnWithFloor_55 : decode cX3_turnWithFloor 55 = .ok (.getfield 46, 3) := by decide +kernel
theorem dX3_turnWithFloor_58 : decode cX3_turnWithFloor 58 = .ok (.aload_n 2, 1) := by decide +kernel
theorem dX3_turnWithFloor_59 : decode cX3_turnWithFloor 59 = .ok (.getfield 105, 3) := by decide +kernel
theorem dX3_turnWithFloor_62 : decode cX3_turnWithFloor 62 = .ok (.getfield 46, 3) := by decide +kernel
theorem dX3_turnWithFloor_65 : decode cX3_turnWithFloor 65 = .ok (.if_icmp .le 6, 3) := by decide +kernel
theorem dX3_turnWithFloor_68 : decode cX3_turnWithFloor 68 = .ok (.aload 4, 2) := by decide +kernel
theorem dX3_turnWithFloor_70 : decode cX3_turnWithFloor 70 = .ok (.astore_n 2, 1) := by decide +kernel
theorem dX3_turnWithFloor_71 : decode cX3_turnWithFloor 71 = .ok (.iinc 3 1, 3) := by decide +kernel
theorem dX3_turnWithFloor_74 : decode cX3_turnWithFloor 74 = .ok (.goto (-65), 3) := by decide +kernel
theorem dX3_turnWithFloor_77 : decode cX3_turnWithFloor 77 = .ok (.aload_n 2, 1) := by decide +kernel
theorem dX3_turnWithFloor_78 : decode cX3_turnWithFloor 78 = .ok (.areturn, 1) := by decide +kernel
theorem dX3_loseWhatIsStillSaid_0 : decode cX3_loseWhatIsStillSaid 0 = .ok (.iconst 0, 1) := by decide +kernel
theorem dX3_loseWhatIsStillSaid_1 : decode cX3_loseWhatIsStillSaid 1 = .ok (.istore_n 1, 1) := by decide +kernel
theorem dX3_loseWhatIsStillSaid_2 : decode cX3_loseWhatIsStillSaid 2 = .ok (.iload_n 1, 1) := by decide +kernel
theorem dX3_loseWhatIsStillSaid_3 : decode cX3_loseWhatIsStillSaid 3 = .ok (.iconst 4, 1) := by decide +kernel
theorem dX3_loseWhatIsStillSaid_4 : decode cX3_loseWhatIsStillSaid 4 = .ok (.if_icmp .ge 45, 3) := by decide +kernel
theorem dX3_loseWhatIsStillSaid_7 : decode cX3_loseWhatIsStillSaid 7 = .ok (.aload_n 0, 1) := by decide +kernel
theorem dX3_loseWhatIsStillSaid_8 : decode cX3_loseWhatIsStillSaid 8 = .ok (.getfield 11, 3) := by decide +kernel
theorem dX3_loseWhatIsStillSaid_11 : decode cX3_loseWhatIsStillSaid 11 = .ok (.iload_n 1, 1) := by decide +kernel
theorem dX3_loseWhatIsStillSaid_12 : decode cX3_loseWhatIsStillSaid 12 = .ok (.aaload, 1) := by decide +kernel
theorem dX3_loseWhatIsStillSaid_13 : decode cX3_loseWhatIsStillSaid 13 = .ok (.getfield 111, 3) := by decide +kernel
theorem dX3_loseWhatIsStillSaid_16 : decode cX3_loseWhatIsStillSaid 16 = .ok (.astore_n 2, 1) := by decide +kernel
theorem dX3_loseWhatIsStillSaid_17 : decode cX3_loseWhatIsStillSaid 17 = .ok (.aload_n 2, 1) := by decide +kernel
theorem dX3_loseWhatIsStillSaid_18 : decode cX3_loseWhatIsStillSaid 18 = .ok (.ifnull 15, 3) := by decide +kernel
theorem dX3_loseWhatIsStillSaid_21 : decode cX3_loseWhatIsStillSaid 21 = .ok (.aload_n 2, 1) := by decide +kernel
theorem dX3_loseWhatIsStillSaid_22 : decode cX3_loseWhatIsStillSaid 22 = .ok (.getfield 176, 3) := by decide +kernel
theorem dX3_loseWhatIsStillSaid_25 : decode cX3_loseWhatIsStillSaid 25 = .ok (.ifCond .ne 8, 3) := by decide +kernel
theorem dX3_loseWhatIsStillSaid_28 : decode cX3_loseWhatIsStillSaid 28 = .ok (.aload_n 2, 1) := by decide +kernel
theorem dX3_loseWhatIsStillSaid_29 : decode cX3_loseWhatIsStillSaid 29 = .ok (.iconst 2, 1) := by decide +kernel
theorem dX3_loseWhatIsStillSaid_30 : decode cX3_loseWhatIsStillSaid 30 = .ok (.putfield 176, 3) := by decide +kernel
theorem dX3_loseWhatIsStillSaid_33 : decode cX3_loseWhatIsStillSaid 33 = .ok (.aload_n 0, 1) := by decide +kernel
theorem dX3_loseWhatIsStillSaid_34 : decode cX3_loseWhatIsStillSaid 34 = .ok (.getfield 11, 3) := by decide +kernel
theorem dX3_loseWhatIsStillSaid_37 : decode cX3_loseWhatIsStillSaid 37 = .ok (.iload_n 1, 1) := by decide +kernel
theorem dX3_loseWhatIsStillSaid_38 : decode cX3_loseWhatIsStillSaid 38 = .ok (.aaload, 1) := by decide +kernel
theorem dX3_loseWhatIsStillSaid_39 : decode cX3_loseWhatIsStillSaid 39 = .ok (.aconst_null, 1) := by decide +kernel
theorem dX3_loseWhatIsStillSaid_40 : decode cX3_loseWhatIsStillSaid 40 = .ok (.putfield 111, 3) := by decide +kernel
theorem dX3_loseWhatIsStillSaid_43 : decode cX3_loseWhatIsStillSaid 43 = .ok (.iinc 1 1, 3) := by decide +kernel
theorem dX3_loseWhatIsStillSaid_46 : decode cX3_loseWhatIsStillSaid 46 = .ok (.goto (-44), 3) := by decide +kernel
theorem dX3_loseWhatIsStillSaid_49 : decode cX3_loseWhatIsStillSaid 49 = .ok (.return_, 1) := by decide +kernel
theorem dX3_carryOut_0 : decode cX3_carryOut 0 = .ok (.aload_n 0, 1) := by decide +kernel
theorem dX3_carryOut_1 : decode cX3_carryOut 1 = .ok (.aload_n 1, 1) := by decide +kernel
theorem dX3_carryOut_2 : decode cX3_carryOut 2 = .ok (.invokevirtual 277, 3) := by decide +kernel
theorem dX3_carryOut_5 : decode cX3_carryOut 5 = .ok (.ifCond .eq 11, 3) := by decide +kernel
theorem dX3_carryOut_8 : decode cX3_carryOut 8 = .ok (.aload_n 0, 1) := by decide +kernel
theorem dX3_carryOut_9 : decode cX3_carryOut 9 = .ok (.aload_n 1, 1) := by decide +kernel
theorem dX3_carryOut_10 : decode cX3_carryOut 10 = .ok (.invokevirtual 280, 3) := by decide +kernel
theorem dX3_carryOut_13 : decode cX3_carryOut 13 = .ok (.ifCond .ne 9, 3) := by decide +kernel
theorem dX3_carryOut_16 : decode cX3_carryOut 16 = .ok (.aload_n 1, 1) := by decide +kernel
theorem dX3_carryOut_17 : decode cX3_carryOut 17 = .ok (.iconst 4, 1) := by decide +kernel
theorem dX3_carryOut_18 : decode cX3_carryOut 18 = .ok (.putfield 176, 3) := by decide +kernel
theorem dX3_carryOut_21 : decode cX3_carryOut 21 = .ok (.return_, 1) := by decide +kernel
theorem dX3_carryOut_22 : decode cX3_carryOut 22 = .ok (.aload_n 1, 1) := by decide +kernel
theorem dX3_carryOut_23 : decode cX3_carryOut 23 = .ok (.aload_n 0, 1) := by decide +kernel
theorem dX3_carryOut_24 : decode cX3_carryOut 24 = .ok (.getfield 76, 3) := by decide +kernel
theorem dX3_carryOut_27 : decode cX3_carryOut 27 = .ok (.putfield 179, 3) := by decide +kernel
theorem dX3_carryOut_30 : decode cX3_carryOut 30 = .ok (.aload_n 0, 1) := by decide +kernel
theorem dX3_carryOut_31 : decode cX3_carryOut 31 = .ok (.aload_n 1, 1) := by decide +kernel
theorem dX3_carryOut_32 : decode cX3_carryOut 32 = .ok (.invokevirtual 309, 3) := by decide +kernel
theorem dX3_carryOut_35 : decode cX3_carryOut 35 = .ok (.aload_n 1, 1) := by decide +kernel
theorem dX3_carryOut_36 : decode cX3_carryOut 36 = .ok (.getfield 161, 3) := by decide +kernel
theorem dX3_carryOut_39 : decode cX3_carryOut 39 = .ok (.iconst 4, 1) := by decide +kernel
theorem dX3_carryOut_40 : decode cX3_carryOut 40 = .ok (.if_icmp .eq 8, 3) := by decide +kernel
theorem dX3_carryOut_43 : decode cX3_carryOut 43 = .ok (.aload_n 0, 1) := by decide +kernel
theorem dX3_carryOut_44 : decode cX3_carryOut 44 = .ok (.iconst (-1), 1) := by decide +kernel
theorem dX3_carryOut_45 : decode cX3_carryOut 45 = .ok (.putfield 32, 3) := by decide +kernel
theorem dX3_carryOut_48 : decode cX3_carryOut 48 = .ok (.aload_n 1, 1) := by decide +kernel
theorem dX3_carryOut_49 : decode cX3_carryOut 49 = .ok (.invokevirtual 312, 3) := by decide +kernel
theorem dX3_carryOut_52 : decode cX3_carryOut 52 = .ok (.ifCond .eq 43, 3) := by decide +kernel
theorem dX3_carryOut_55 : decode cX3_carryOut 55 = .ok (.aload_n 0, 1) := by decide +kernel
theorem dX3_carryOut_56 : decode cX3_carryOut 56 = .ok (.aload_n 1, 1) := by decide +kernel
theorem dX3_carryOut_57 : decode cX3_carryOut 57 = .ok (.invokevirtual 315, 3) := by decide +kernel
theorem dX3_carryOut_60 : decode cX3_carryOut 60 = .ok (.ifCond .eq 9, 3) := by decide +kernel
theorem dX3_carryOut_63 : decode cX3_carryOut 63 = .ok (.aload_n 1, 1) := by decide +kernel
theorem dX3_carryOut_64 : decode cX3_carryOut 64 = .ok (.iconst 3, 1) := by decide +kernel
theorem dX3_carryOut_65 : decode cX3_carryOut 65 = .ok (.putfield 176, 3) := by decide +kernel
theorem dX3_carryOut_68 : decode cX3_carryOut 68 = .ok (.return_, 1) := by decide +kernel
theorem dX3_carryOut_69 : decode cX3_carryOut 69 = .ok (.aload_n 1, 1) := by decide +kernel
theorem dX3_carryOut_70 : decode cX3_carryOut 70 = .ok (.getfield 105, 3) := by decide +kernel
theorem dX3_carryOut_73 : decode cX3_carryOut 73 = .ok (.getfield 190, 3) := by decide +kernel
theorem dX3_carryOut_76 : decode cX3_carryOut 76 = .ok (.aload_n 1, 1) := by decide +kernel
theorem dX3_carryOut_77 : decode cX3_carryOut 77 = .ok (.getfield 173, 3) := by decide +kernel
theorem dX3_carryOut_80 : decode cX3_carryOut 80 = .ok (.iaload, 1) := by decide +kernel
theorem dX3_carryOut_81 : decode cX3_carryOut 81 = .ok (.iconst 1, 1) := by decide +kernel
theorem dX3_carryOut_82 : decode cX3_carryOut 82 = .ok (.if_icmp .eq 13, 3) := by decide +kernel
theorem dX3_carryOut_85 : decode cX3_carryOut 85 = .ok (.aload_n 0, 1) := by decide +kernel
theorem dX3_carryOut_86 : decode cX3_carryOut 86 = .ok (.aload_n 1, 1) := by decide +kernel
theorem dX3_carryOut_87 : decode cX3_carryOut 87 = .ok (.aload_n 1, 1) := by decide +kernel
theorem dX3_carryOut_88 : decode cX3_carryOut 88 = .ok (.getfield 173, 3) := by decide +kernel
theorem dX3_carryOut_91 : decode cX3_carryOut 91 = .ok (.iconst 1, 1) := by decide +kernel
theorem dX3_carryOut_92 : decode cX3_carryOut 92 = .ok (.invokevirtual 318, 3) := by decide +kernel
theorem dX3_carryOut_95 : decode cX3_carryOut 95 = .ok (.aload_n 1, 1) := by decide +kernel
theorem dX3_carryOut_96 : decode cX3_carryOut 96 = .ok (.iconst 1, 1) := by decide +kernel
theorem dX3_carryOut_97 : decode cX3_carryOut 97 = .ok (.putfield 176, 3) := by decide +kernel
theorem dX3_carryOut_100 : decode cX3_carryOut 100 = .ok (.aload_n 0, 1) := by decide +kernel
theorem dX3_carryOut_101 : decode cX3_carryOut 101 = .ok (.aload_n 1, 1) := by decide +kernel
theorem dX3_carryOut_102 : decode cX3_carryOut 102 = .ok (.invokevirtual 322, 3) := by decide +kernel
theorem dX3_carryOut_105 : decode cX3_carryOut 105 = .ok (.return_, 1) := by decide +kernel
theorem dX3_isDoubted_0 : decode cX3_isDoubted 0 = .ok (.iconst 0, 1) := by decide +kernel
theorem dX3_isDoubted_1 : decode cX3_isDoubted 1 = .ok (.istore_n 2, 1) := by decide +kernel
theorem dX3_isDoubted_2 : decode cX3_isDoubted 2 = .ok (.iload_n 2, 1) := by decide +kernel
theorem dX3_isDoubted_3 : decode cX3_isDoubted 3 = .ok (.iconst 4, 1) := by decide +kernel
theorem dX3_isDoubted_4 : decode cX3_isDoubted 4 = .ok (.if_icmp .ge 42, 3) := by decide +kernel
theorem dX3_isDoubted_7 : decode cX3_isDoubted 7 = .ok (.aload_n 1, 1) := by decide +kernel
theorem dX3_isDoubted_8 : decode cX3_isDoubted 8 = .ok (.aload_n 0, 1) := by decide +kernel
theorem dX3_isDoubted_9 : decode cX3_isDoubted 9 = .ok (.getfield 11, 3) := by decide +kernel
theorem dX3_isDoubted_12 : decode cX3_isDoubted 12 = .ok (.iload_n 2, 1) := by decide +kernel
theorem dX3_isDoubted_13 : decode cX3_isDoubted 13 = .ok (.aaload, 1) := by decide +kernel
theorem dX3_isDoubted_14 : decode cX3_isDoubted 14 = .ok (.invokevirtual 286, 3) := by decide +kernel
theorem dX3_isDoubted_17 : decode cX3_isDoubted 17 = .ok (.ifCond .eq 23, 3) := by decide +kernel
theorem dX3_isDoubted_20 : decode cX3_isDoubted 20 = .ok (.aload_n 0, 1) := by decide +kernel
theorem dX3_isDoubted_21 : decode cX3_isDoubted 21 = .ok (.getfield 11, 3) := by decide +kernel
theorem dX3_isDoubted_24 : decode cX3_isDoubted 24 = .ok (.iload_n 2, 1) := by decide +kernel
theorem dX3_isDoubted_25 : decode cX3_isDoubted 25 = .ok (.aaload, 1) := by decide +kernel
theorem dX3_isDoubted_26 : decode cX3_isDoubted 26 = .ok (.getfield 190, 3) := by decide +kernel
theorem dX3_isDoubted_29 : decode cX3_isDoubted 29 = .ok (.aload_n 1, 1) := by decide +kernel
theorem dX3_isDoubted_30 : decode cX3_isDoubted 30 = .ok (.getfield 173, 3) := by decide +kernel
theorem dX3_isDoubted_33 : decode cX3_isDoubted 33 = .ok (.iaload, 1) := by decide +kernel
theorem dX3_isDoubted_34 : decode cX3_isDoubted 34 = .ok (.iconst 2, 1) := by decide +kernel
theorem dX3_isDoubted_35 : decode cX3_isDoubted 35 = .ok (.if_icmp .ne 5, 3) := by decide +kernel
theorem dX3_isDoubted_38 : decode cX3_isDoubted 38 = .ok (.iconst 1, 1) := by decide +kernel
theorem dX3_isDoubted_39 : decode cX3_isDoubted 39 = .ok (.ireturn, 1) := by decide +kernel
theorem dX3_isDoubted_40 : decode cX3_isDoubted 40 = .ok (.iinc 2 1, 3) := by decide +kernel
theorem dX3_isDoubted_43 : decode cX3_isDoubted 43 = .ok (.goto (-41), 3) := by decide +kernel
theorem dX3_isDoubted_46 : decode cX3_isDoubted 46 = .ok (.iconst 0, 1) := by decide +kernel
theorem dX3_isDoubted_47 : decode cX3_isDoubted 47 = .ok (.ireturn, 1) := by decide +kernel
theorem dX3_perform_0 : decode cX3_perform 0 = .ok (.aload_n 1, 1) := by decide +kernel
theorem dX3_perform_1 : decode cX3_perform 1 = .ok (.getfield 161, 3) := by decide +kernel
theorem dX3_perform_4 : decode cX3_perform 4 = .ok (.tableswitch 188 0 13 #[72, 80, 100, 108, 188, 188, 188, 188, 188, 115, 123, 140, 156, 172], 72) := by decide +kernel
theorem dX3_perform_76 : decode cX3_perform 76 = .ok (.aload_n 0, 1) := by decide +kernel
theorem dX3_perform_77 : decode cX3_perform 77 = .ok (.aload_n 1, 1) := by decide +kernel
theorem dX3_perform_78 : decode cX3_perform 78 = .ok (.invokevirtual 325, 3) := by decide +kernel
theorem dX3_perform_81 : decode cX3_perform 81 = .ok (.goto 124, 3) := by decide +kernel
theorem dX3_perform_84 : decode cX3_perform 84 = .ok (.aload_n 0, 1) := by decide +kernel
theorem dX3_perform_85 : decode cX3_perform 85 = .ok (.getfield 26, 3) := by decide +kernel
theorem dX3_perform_88 : decode cX3_perform 88 = .ok (.aload_n 1, 1) := by decide +kernel
theorem dX3_perform_89 : decode cX3_perform 89 = .ok (.invokevirtual 101, 3) := by decide +kernel
theorem dX3_perform_92 : decode cX3_perform 92 = .ok (.pop, 1) := by decide +kernel
theorem dX3_perform_93 : decode cX3_perform 93 = .ok (.aload_n 0, 1) := by decide +kernel
theorem dX3_perform_94 : decode cX3_perform 94 = .ok (.aload_n 1, 1) := by decide +kernel
theorem dX3_perform_95 : decode cX3_perform 95 = .ok (.invokevirtual 224, 3) := by decide +kernel
theorem dX3_perform_98 : decode cX3_perform 98 = .ok (.invokevirtual 328, 3) := by decide +kernel
theorem dX3_perform_101 : decode cX3_perform 101 = .ok (.goto 104, 3) := by decide +kernel
theorem dX3_perform_104 : decode cX3_perform 104 = .ok (.aload_n 0, 1) := by decide +kernel
theorem dX3_perform_105 : decode cX3_perform 105 = .ok (.aload_n 1, 1) := by decide +kernel
theorem dX3_perform_106 : decode cX3_perform 106 = .ok (.invokevirtual 331, 3) := by decide +kernel
theorem dX3_perform_109 : decode cX3_perform 109 = .ok (.goto 96, 3) := by decide +kernel
theorem dX3_perform_112 : decode cX3_perform 112 = .ok (.aload_n 0, 1) := by decide +kernel
theorem dX3_perform_113 : decode cX3_perform 113 = .ok (.invokevirtual 334, 3) := by decide +kernel
theorem dX3_perform_116 : decode cX3_perform 116 = .ok (.goto 89, 3) := by decide +kernel
theorem dX3_perform_119 : decode cX3_perform 119 = .ok (.aload_n 0, 1) := by decide +kernel
theorem dX3_perform_120 : decode cX3_perform 120 = .ok (.aload_n 1, 1) := by decide +kernel
theorem dX3_perform_121 : decode cX3_perform 121 = .ok (.invokevirtual 337, 3) := by decide +kernel
theorem dX3_perform_124 : decode cX3_perform 124 = .ok (.goto 81, 3) := by decide +kernel
theorem dX3_perform_127 : decode cX3_perform 127 = .ok (.aload_n 0, 1) := by decide +kernel
theorem dX3_perform_128 : decode cX3_perform 128 = .ok (.aload_n 1, 1) := by decide +kernel
theorem dX3_perform_129 : decode cX3_perform 129 = .ok (.getfield 105, 3) := by decide +kernel
theorem dX3_perform_132 : decode cX3_perform 132 = .ok (.aload_n 1, 1) := by decide +kernel
theorem dX3_perform_133 : decode cX3_perform 133 = .ok (.getfield 164, 3) := by decide +kernel
theorem dX3_perform_136 : decode cX3_perform 136 = .ok (.iconst 0, 1) := by decide +kernel
theorem dX3_perform_137 : decode cX3_perform 137 = .ok (.aload_n 1, 1) := by decide +kernel
theorem dX3_perform_138 : decode cX3_perform 138 = .ok (.invokevirtual 340, 3) := by decide +kernel
theorem dX3_perform_141 : decode cX3_perform 141 = .ok (.goto 64, 3) := by decide +kernel
theorem dX3_perform_144 : decode cX3_perform 144 = .ok (.aload_n 1, 1) := by decide +kernel
theorem dX3_perform_145 : decode cX3_perform 145 = .ok (.getfield 105, 3) := by decide +kernel
theorem dX3_perform_148 : decode cX3_perform 148 = .ok (.getfield 209, 3) := by decide +kernel
theorem dX3_perform_151 : decode cX3_perform 151 = .ok (.aload_n 1, 1) := by decide +kernel
theorem dX3_perform_152 : decode cX3_perform 152 = .ok (.getfield 164, 3) := by decide +kernel
theorem dX3_perform_155 : decode cX3_perform 155 = .ok (.aload_n 1, 1) := by decide +kernel
theorem dX3_perform_156 : decode cX3_perform 156 = .ok (.aastore, 1) := by decide +kernel
theorem dX3_perform_157 : decode cX3_perform 157 = .ok (.goto 48, 3) := by decide +kernel
theorem dX3_perform_160 : decode cX3_perform 160 = .ok (.aload_n 1, 1) := by decide +kernel
theorem dX3_perform_161 : decode cX3_perform 161 = .ok (.getfield 105, 3) := by decide +kernel
theorem dX3_perform_164 : decode cX3_perform 164 = .ok (.getfield 209, 3) := by decide +kernel
theorem dX3_perform_167 : decode cX3_perform 167 = .ok (.aload_n 1, 1) := by decide +kernel
theorem dX3_perform_168 : decode cX3_perform 168 = .ok (.getfield 164, 3) := by decide +kernel
theorem dX3_perform_171 : decode cX3_perform 171 = .ok (.aconst_null, 1) := by decide +kernel
theorem dX3_perform_172 : decode cX3_perform 172 = .ok (.aastore, 1) := by decide +kernel
theorem dX3_perform_173 : decode cX3_perform 173 = .ok (.goto 32, 3) := by decide +kernel
theorem dX3_perform_176 : decode cX3_perform 176 = .ok (.aload_n 0, 1) := by decide +kernel
theorem dX3_perform_177 : decode cX3_perform 177 = .ok (.aload_n 1, 1) := by decide +kernel
theorem dX3_perform_178 : decode cX3_perform 178 = .ok (.invokevirtual 344, 3) := by decide +kernel
theorem dX3_perform_181 : decode cX3_perform 181 = .ok (.aload_n 0, 1) := by decide +kernel
theorem dX3_perform_182 : decode cX3_perform 182 = .ok (.aload_n 1, 1) := by decide +kernel
theorem dX3_perform_183 : decode cX3_perform 183 = .ok (.invokevirtual 224, 3) := by decide +kernel
theorem dX3_perform_186 : decode cX3_perform 186 = .ok (.invokevirtual 328, 3) := by decide +kernel
theorem dX3_perform_189 : decode cX3_perform 189 = .ok (.goto 16, 3) := by decide +kernel
theorem dX3_perform_192 : decode cX3_perform 192 = .ok (.aload_n 0, 1) := by decide +kernel
theorem dX3_perform_193 : decode cX3_perform 193 = .ok (.aload_n 1, 1) := by decide +kernel
theorem dX3_perform_194 : decode cX3_perform 194 = .ok (.aload_n 0, 1) := by decide +kernel
theorem dX3_perform_195 : decode cX3_perform 195 = .ok (.aload_n 1, 1) := by decide +kernel
theorem dX3_perform_196 : decode cX3_perform 196 = .ok (.getfield 164, 3) := by decide +kernel
theorem dX3_perform_199 : decode cX3_perform 199 = .ok (.invokevirtual 151, 3) := by decide +kernel
theorem dX3_perform_202 : decode cX3_perform 202 = .ok (.invokevirtual 347, 3) := by decide +kernel
theorem dX3_perform_205 : decode cX3_perform 205 = .ok (.return_, 1) := by decide +kernel
theorem dX3_performReply_0 : decode cX3_performReply 0 = .ok (.aload_n 2, 1) := by decide +kernel
theorem dX3_performReply_1 : decode cX3_performReply 1 = .ok (.ifnonnull 4, 3) := by decide +kernel
theorem dX3_performReply_4 : decode cX3_performReply 4 = .ok (.return_, 1) := by decide +kernel
theorem dX3_performReply_5 : decode cX3_performReply 5 = .ok (.aload_n 1, 1) := by decide +kernel
theorem dX3_performReply_6 : decode cX3_performReply 6 = .ok (.getfield 161, 3) := by decide +kernel
theorem dX3_performReply_9 : decode cX3_performReply 9 = .ok (.tableswitch 154 4 15 #[63, 79, 93, 101, 117, 154, 154, 154, 154, 154, 137, 146], 63) := by decide +kernel
theorem dX3_performReply_72 : decode cX3_performReply 72 = .ok (.aload_n 2, 1) := by decide +kernel
theorem dX3_performReply_73 : decode cX3_performReply 73 = .ok (.getfield 187, 3) := by decide +kernel
theorem dX3_performReply_76 : decode cX3_performReply 76 = .ok (.aload_n 1, 1) := by decide +kernel
theorem dX3_performReply_77 : decode cX3_performReply 77 = .ok (.getfield 105, 3) := by decide +kernel
theorem dX3_performReply_80 : decode cX3_performReply 80 = .ok (.getfield 160, 3) := by decide +kernel
theorem dX3_performReply_83 : decode cX3_performReply 83 = .ok (.iconst 4, 1) := by decide +kernel
theorem dX3_performReply_84 : decode cX3_performReply 84 = .ok (.iastore, 1) := by decide +kernel
theorem dX3_performReply_85 : decode cX3_performReply 85 = .ok (.goto 78, 3) := by decide +kernel
theorem dX3_performReply_88 : decode cX3_performReply 88 = .ok (.aload_n 0, 1) := by decide +kernel
theorem dX3_performReply_89 : decode cX3_performReply 89 = .ok (.aload_n 2, 1) := by decide +kernel
theorem dX3_performReply_90 : decode cX3_performReply 90 = .ok (.getfield 105, 3) := by decide +kernel
theorem dX3_performReply_93 : decode cX3_performReply 93 = .ok (.getfield 160, 3) := by decide +kernel
theorem dX3_performReply_96 : decode cX3_performReply 96 = .ok (.invokevirtual 328, 3) := by decide +kernel
theorem dX3_performReply_99 : decode cX3_performReply 99 = .ok (.goto 64, 3) := by decide +kernel
theorem dX3_performReply_102 : decode cX3_performReply 102 = .ok (.aload_n 0, 1) := by decide +kernel
theorem dX3_performReply_103 : decode cX3_performReply 103 = .ok (.aload_n 2, 1) := by decide +kernel
theorem dX3_performReply_104 : decode cX3_performReply 104 = .ok (.invokevirtual 309, 3) := by decide +kernel
theorem dX3_performReply_107 : decode cX3_performReply 107 = .ok (.goto 56, 3) := by decide +kernel
theorem dX3_performReply_110 : decode cX3_performReply 110 = .ok (.aload_n 0, 1) := by decide +kernel
theorem dX3_performReply_111 : decode cX3_performReply 111 = .ok (.aload_n 1, 1) := by decide +kernel
theorem dX3_performReply_112 : decode cX3_performReply 112 = .ok (.aload_n 2, 1) := by decide +kernel
theorem dX3_performReply_113 : decode cX3_performReply 113 = .ok (.getfield 164, 3) := by decide +kernel
theorem dX3_performReply_116 : decode cX3_performReply 116 = .ok (.aload_n 2, 1) := by decide +kernel
theorem dX3_performReply_117 : decode cX3_performReply 117 = .ok (.getfield 167, 3) := by decide +kernel
theorem dX3_performReply_120 : decode cX3_performReply 120 = .ok (.invokevirtual 318, 3) := by decide +kernel
theorem dX3_performReply_123 : decode cX3_performReply 123 = .ok (.goto 40, 3) := by decide +kernel
theorem dX3_performReply_126 : decode cX3_performReply 126 = .ok (.aload_n 0, 1) := by decide +kernel
theorem dX3_performReply_127 : decode cX3_performReply 127 = .ok (.aload_n 1, 1) := by decide +kernel
theorem dX3_performReply_128 : decode cX3_performReply 128 = .ok (.aload_n 2, 1) := by decide +kernel
theorem dX3_performReply_129 : decode cX3_performReply 129 = .ok (.invokevirtual 351, 3) := by decide +kernel
theorem dX3_performReply_132 : decode cX3_performReply 132 = .ok (.aload_n 0, 1) := by decide +kernel
theorem dX3_performReply_133 : decode cX3_performReply 133 = .ok (.aload_n 2, 1) := by decide +kernel
theorem dX3_performReply_134 : decode cX3_performReply 134 = .ok (.getfield 105, 3) := by decide +kernel
theorem dX3_performReply_137 : decode cX3_performReply 137 = .ok (.getfield 160, 3) := by decide +kernel
theorem dX3_performReply_140 : decode cX3_performReply 140 = .ok (.invokevirtual 328, 3) := by decide +kernel
theorem dX3_performReply_143 : decode cX3_performReply 143 = .ok (.goto 20, 3) := by decide +kernel
theorem dX3_performReply_146 : decode cX3_performReply 146 = .ok (.aload_n 0, 1) := by decide +kernel
theorem dX3_performReply_147 : decode cX3_performReply 147 = .ok (.aload_n 1, 1) := by decide +kernel
theorem dX3_performReply_148 : decode cX3_performReply 148 = .ok (.aload_n 2, 1) := by decide +kernel
theorem dX3_performReply_149 : decode cX3_performReply 149 = .ok (.invokevirtual 354, 3) := by decide +kernel
theorem dX3_performReply_152 : decode cX3_performReply 152 = .ok (.goto 11, 3) := by decide +kernel
theorem dX3_performReply_155 : decode cX3_performReply 155 = .ok (.aload_n 2, 1) := by decide +kernel
theorem dX3_performReply_156 : decode cX3_performReply 156 = .ok (.iconst 0, 1) := by decide +kernel
theorem dX3_performReply_157 : decode cX3_performReply 157 = .ok (.putfield 182, 3) := by decide +kernel
theorem dX3_performReply_160 : decode cX3_performReply 160 = .ok (.goto 3, 3) := by decide +kernel
theorem dX3_performReply_163 : decode cX3_performReply 163 = .ok (.return_, 1) := by decide +kernel
theorem dX3_entitle_0 : decode cX3_entitle 0 = .ok (.aload_n 0, 1) := by decide +kernel
theorem dX3_entitle_1 : decode cX3_entitle 1 = .ok (.iload_n 1, 1) := by decide +kernel
theorem dX3_entitle_2 : decode cX3_entitle 2 = .ok (.putfield 32, 3) := by decide +kernel
theorem dX3_entitle_5 : decode cX3_entitle 5 = .ok (.aload_n 0, 1) := by decide +kernel
theorem dX3_entitle_6 : decode cX3_entitle 6 = .ok (.aload_n 0, 1) := by decide +kernel
theorem dX3_entitle_7 : decode cX3_entitle 7 = .ok (.getfield 76, 3) := by decide +kernel
theorem dX3_entitle_10 : decode cX3_entitle 10 = .ok (.iconst 2, 1) := by decide +kernel
theorem dX3_entitle_11 : decode cX3_entitle 11 = .ok (.iadd, 1) := by decide +kernel
theorem dX3_entitle_12 : decode cX3_entitle 12 = .ok (.putfield 144, 3) := by decide +kernel
theorem dX3_entitle_15 : decode cX3_entitle 15 = .ok (.return_, 1) := by decide +kernel
theorem dX3_assertAtom_0 : decode cX3_assertAtom 0 = .ok (.aload_n 0, 1) := by decide +kernel
theorem dX3_assertAtom_1 : decode cX3_assertAtom 1 = .ok (.aload_n 1, 1) := by decide +kernel
theorem dX3_assertAtom_2 : decode cX3_assertAtom 2 = .ok (.aload_n 1, 1) := by decide +kernel
theorem dX3_assertAtom_3 : decode cX3_assertAtom 3 = .ok (.getfield 164, 3) := by decide +kernel
theorem dX3_assertAtom_6 : decode cX3_assertAtom 6 = .ok (.aload_n 1, 1) := by decide +kernel
theorem dX3_assertAtom_7 : decode cX3_assertAtom 7 = .ok (.getfield 167, 3) := by decide +kernel
theorem dX3_assertAtom_10 : decode cX3_assertAtom 10 = .ok (.invokevirtual 318, 3) := by decide +kernel
theorem dX3_assertAtom_13 : decode cX3_assertAtom 13 = .ok (.aload_n 0, 1) := by decide +kernel
theorem dX3_assertAtom_14 : decode cX3_assertAtom 14 = .ok (.invokevirtual 283, 3) := by decide +kernel
theorem dX3_assertAtom_17 : decode cX3_assertAtom 17 = .ok (.astore_n 2, 1) := by decide +kernel
theorem dX3_assertAtom_18 : decode cX3_assertAtom 18 = .ok (.aload_n 2, 1) := by decide +kernel
theorem dX3_assertAtom_19 : decode cX3_assertAtom 19 = .ok (.ifnull 29, 3) := by decide +kernel
theorem dX3_assertAtom_22 : decode cX3_assertAtom 22 = .ok (.aload_n 2, 1) := by decide +kernel
theorem dX3_assertAtom_23 : decode cX3_assertAtom 23 = .ok (.aload_n 1, 1) := by decide +kernel
theorem dX3_assertAtom_24 : decode cX3_assertAtom 24 = .ok (.getfield 105, 3) := by decide +kernel
theorem dX3_assertAtom_27 : decode cX3_assertAtom 27 = .ok (.invokevirtual 286, 3) := by decide +kernel
theorem dX3_assertAtom_30 : decode cX3_assertAtom 30 = .ok (.ifCond .eq 18, 3) := by decide +kernel
theorem dX3_assertAtom_33 : decode cX3_assertAtom 33 = .ok (.aload_n 2, 1) := by decide +kernel
theorem dX3_assertAtom_34 : decode cX3_assertAtom 34 = .ok (.getfield 164, 3) := by decide +kernel
theorem dX3_assertAtom_37 : decode cX3_assertAtom 37 = .ok (.aload_n 1, 1) := by decide +kernel
theorem dX3_assertAtom_38 : decode cX3_assertAtom 38 = .ok (.getfield 164, 3) := by decide +kernel
theorem dX3_assertAtom_41 : decode cX3_assertAtom 41 = .ok (.if_icmp .ne 7, 3) := by decide +kernel
theorem dX3_assertAtom_44 : decode cX3_assertAtom 44 = .ok (.aload_n 0, 1) := by decide +kernel
theorem dX3_assertAtom_45 : decode cX3_assertAtom 45 = .ok (.invokevirtual 334, 3) := by decide +kernel
theorem dX3_assertAtom_48 : decode cX3_assertAtom 48 = .ok (.return_, 1) := by decide +kernel
theorem dX3_answerTopQuestion_0 : decode cX3_answerTopQuestion 0 = .ok (.aload_n 0, 1) := by decide +kernel
theorem dX3_answerTopQuestion_1 : decode cX3_answerTopQuestion 1 = .ok (.invokevirtual 283, 3) := by decide +kernel
theorem dX3_answerTopQuestion_4 : decode cX3_answerTopQuestion 4 = .ok (.astore_n 2, 1) := by decide +kernel
theorem dX3_answerTopQuestion_5 : decode cX3_answerTopQuestion 5 = .ok (.aload_n 2, 1) := by decide +kernel
theorem dX3_answerTopQuestion_6 : decode cX3_answerTopQuestion 6 = .ok (.ifnonnull 4, 3) := by decide +kernel
theorem dX3_answerTopQuestion_9 : decode cX3_answerTopQuestion 9 = .ok (.return_, 1) := by decide +kernel
theorem dX3_answerTopQuestion_10 : decode cX3_answerTopQuestion 10 = .ok (.aload_n 0, 1) := by decide +kernel
theorem dX3_answerTopQuestion_11 : decode cX3_answerTopQuestion 11 = .ok (.invokevirtual 334, 3) := by decide +kernel
theorem dX3_answerTopQuestion_14 : decode cX3_answerTopQuestion 14 = .ok (.aload_n 1, 1) := by decide +kernel
theorem dX3_answerTopQuestion_15 : decode cX3_answerTopQuestion 15 = .ok (.aload_n 2, 1) := by decide +kernel
theorem dX3_answerTopQuestion_16 : decode cX3_answerTopQuestion 16 = .ok (.getfield 164, 3) := by decide +kernel
theorem dX3_answerTopQuestion_19 : decode cX3_answerTopQuestion 19 = .ok (.putfield 164, 3) := by decide +kernel
theorem dX3_answerTopQuestion_22 : decode cX3_answerTopQuestion 22 = .ok (.aload_n 1, 1) := by decide +kernel
theorem dX3_answerTopQuestion_23 : decode cX3_answerTopQuestion 23 = .ok (.getfield 167, 3) := by decide +kernel
theorem dX3_answerTopQuestion_26 : decode cX3_answerTopQuestion 26 = .ok (.ifCond .eq 16, 3) := by decide +kernel
theorem dX3_answerTopQuestion_29 : decode cX3_answerTopQuestion 29 = .ok (.aload_n 0, 1) := by decide +kernel
theorem dX3_answerTopQuestion_30 : decode cX3_answerTopQuestion 30 = .ok (.aload_n 1, 1) := by decide +kernel
theorem dX3_answerTopQuestion_31 : decode cX3_answerTopQuestion 31 = .ok (.aload_n 1, 1) := by decide +kernel
theorem dX3_answerTopQuestion_32 : decode cX3_answerTopQuestion 32 = .ok (.getfield 164, 3) := by decide +kernel
theorem dX3_answerTopQuestion_35 : decode cX3_answerTopQuestion 35 = .ok (.aload_n 1, 1) := by decide +kernel
theorem dX3_answerTopQuestion_36 : decode cX3_answerTopQuestion 36 = .ok (.getfield 167, 3) := by decide +kernel
theorem dX3_answerTopQuestion_39 : decode cX3_answerTopQuestion 39 = .ok (.invokevirtual 318, 3) := by decide +kernel
theorem dX3_answerTopQuestion_42 : decode cX3_answerTopQuestion 42 = .ok (.return_, 1) := by decide +kernel
theorem dX3_closeTopQuestion_0 : decode cX3_closeTopQuestion 0 = .ok (.aload_n 0, 1) := by decide +kernel
theorem dX3_closeTopQuestion_1 : decode cX3_closeTopQuestion 1 = .ok (.getfield 26, 3) := by decide +kernel
theorem dX3_closeTopQuestion_4 : decode cX3_closeTopQuestion 4 = .ok (.invokevirtual 256, 3) := by decide +kernel
theorem dX3_closeTopQuestion_7 : decode cX3_closeTopQuestion 7 = .ok (.ifCond .ne 20, 3) := by decide +kernel
theorem dX3_closeTopQuestion_10 : decode cX3_closeTopQuestion 10 = .ok (.aload_n 0, 1) := by decide +kernel
theorem dX3_closeTopQuestion_11 : decode cX3_closeTopQuestion 11 = .ok (.getfield 26, 3) := by decide +kernel
theorem dX3_closeTopQuestion_14 : decode cX3_closeTopQuestion 14 = .ok (.aload_n 0, 1) := by decide +kernel
theorem dX3_closeTopQuestion_15 : decode cX3_closeTopQuestion 15 = .ok (.getfield 26, 3) := by decide +kernel
theorem dX3_closeTopQuestion_18 : decode cX3_closeTopQuestion 18 = .ok (.invokevirtual 147, 3) := by decide +kernel
theorem dX3_closeTopQuestion_21 : decode cX3_closeTopQuestion 21 = .ok (.iconst 1, 1) := by decide +kernel
theorem dX3_closeTopQuestion_22 : decode cX3_closeTopQuestion 22 = .ok (.isub, 1) := by decide +kernel
theorem dX3_closeTopQuestion_23 : decode cX3_closeTopQuestion 23 = .ok (.invokevirtual 357, 3) := by decide +kernel
theorem dX3_closeTopQuestion_26 : decode cX3_closeTopQuestion 26 = .ok (.pop, 1) := by decide +kernel
theorem dX3_closeTopQuestion_27 : decode cX3_closeTopQuestion 27 = .ok (.return_, 1) := by decide +kernel
theorem dX3_commitOwn_0 : decode cX3_commitOwn 0 = .ok (.aload_n 1, 1) := by decide +kernel
theorem dX3_commitOwn_1 : decode cX3_commitOwn 1 = .ok (.getfield 105, 3) := by decide +kernel
theorem dX3_commitOwn_4 : decode cX3_commitOwn 4 = .ok (.getfield 73, 3) := by decide +kernel
theorem dX3_commitOwn_7 : decode cX3_commitOwn 7 = .ok (.iload_n 2, 1) := by decide +kernel
theorem dX3_commitOwn_8 : decode cX3_commitOwn 8 = .ok (.iaload, 1) := by decide +kernel
theorem dX3_commitOwn_9 : decode cX3_commitOwn 9 = .ok (.iload_n 3, 1) := by decide +kernel
theorem dX3_commitOwn_10 : decode cX3_commitOwn 10 = .ok (.invokestatic 360, 3) := by decide +kernel
theorem dX3_commitOwn_13 : decode cX3_commitOwn 13 = .ok (.if_icmp .ne 16, 3) := by decide +kernel
theorem dX3_commitOwn_16 : decode cX3_commitOwn 16 = .ok (.aload_n 1, 1) := by decide +kernel
theorem dX3_commitOwn_17 : decode cX3_commitOwn 17 = .ok (.getfield 105, 3) := by decide +kernel
theorem dX3_commitOwn_20 : decode cX3_commitOwn 20 = .ok (.dup, 1) := by decide +kernel
theorem dX3_commitOwn_21 : decode cX3_commitOwn 21 = .ok (.getfield 215, 3) := by decide +kernel
theorem dX3_commitOwn_24 : decode cX3_commitOwn 24 = .ok (.iconst 1, 1) := by decide +kernel
theorem dX3_commitOwn_25 : decode cX3_commitOwn 25 = .ok (.iadd, 1) := by decide +kernel
theorem dX3_commitOwn_26 : decode cX3_commitOwn 26 = .ok (.putfield 215, 3) := by decide +kernel
theorem dX3_commitOwn_29 : decode cX3_commitOwn 29 = .ok (.aload_n 0, 1) := by decide +kernel
theorem dX3_commitOwn_30 : decode cX3_commitOwn 30 = .ok (.aload_n 1, 1) := by decide +kernel
theorem dX3_commitOwn_31 : decode cX3_commitOwn 31 = .ok (.getfield 105, 3) := by decide +kernel
theorem dX3_commitOwn_34 : decode cX3_commitOwn 34 = .ok (.iload_n 2, 1) := by decide +kernel
theorem dX3_commitOwn_35 : decode cX3_commitOwn 35 = .ok (.iload_n 3, 1) := by decide +kernel
theorem dX3_commitOwn_36 : decode cX3_commitOwn 36 = .ok (.aload_n 1, 1) := by decide +kernel
theorem dX3_commitOwn_37 : decode cX3_commitOwn 37 = .ok (.invokevirtual 340, 3) := by decide +kernel
theorem dX3_commitOwn_40 : decode cX3_commitOwn 40 = .ok (.return_, 1) := by decide +kernel
theorem dX3_commit_0 : decode cX3_commit 0 = .ok (.aload_n 1, 1) := by decide +kernel
theorem dX3_commit_1 : decode cX3_commit 1 = .ok (.getfield 190, 3) := by decide +kernel
theorem dX3_commit_4 : decode cX3_commit 4 = .ok (.iload_n 2, 1) := by decide +kernel
theorem dX3_commit_5 : decode cX3_commit 5 = .ok (.iload_n 3, 1) := by decide +kernel
theorem dX3_commit_6 : decode cX3_commit 6 = .ok (.iastore, 1) := by decide +kernel
theorem dX3_commit_7 : decode cX3_commit 7 = .ok (.aload_n 1, 1) := by decide +kernel
theorem dX3_commit_8 : decode cX3_commit 8 = .ok (.getfield 193, 3) := by decide +kernel
theorem dX3_commit_11 : decode cX3_commit 11 = .ok (.iload_n 2, 1) := by decide +kernel
theorem dX3_commit_12 : decode cX3_commit 12 = .ok (.iload_n 3, 1) := by decide +kernel
theorem dX3_commit_13 : decode cX3_commit 13 = .ok (.ifCond .ne 7, 3) := by decide +kernel
theorem dX3_commit_16 : decode cX3_commit 16 = .ok (.aconst_null, 1) := by decide +kernel
theorem dX3_commit_17 : decode cX3_commit 17 = .ok (.goto 5, 3) := by decide +kernel
theorem dX3_commit_20 : decode cX3_commit 20 = .ok (.aload 4, 2) := by decide +kernel
theorem dX3_commit_22 : decode cX3_commit 22 = .ok (.aastore, 1) := by decide +kernel
theorem dX3_commit_23 : decode cX3_commit 23 = .ok (.aload_n 0, 1) := by decide +kernel
theorem dX3_commit_24 : decode cX3_commit 24 = .ok (.getfield 29, 3) := by decide +kernel
theorem dX3_commit_27 : decode cX3_commit 27 = .ok (.new 201, 3) := by decide +kernel
theorem dX3_commit_30 : decode cX3_commit 30 = .ok (.dup, 1) := by decide +kernel
theorem dX3_commit_31 : decode cX3_commit 31 = .ok (.aload_n 1, 1) := by decide +kernel
theorem dX3_commit_32 : decode cX3_commit 32 = .ok (.getfield 160, 3) := by decide +kernel
theorem dX3_commit_35 : decode cX3_commit 35 = .ok (.iload_n 2, 1) := by decide +kernel
theorem dX3_commit_36 : decode cX3_commit 36 = .ok (.iload_n 3, 1) := by decide +kernel
theorem dX3_commit_37 : decode cX3_commit 37 = .ok (.invokespecial 363, 3) := by decide +kernel
theorem dX3_commit_40 : decode cX3_commit 40 = .ok (.invokevirtual 101, 3) := by decide +kernel
theorem dX3_commit_43 : decode cX3_commit 43 = .ok (.pop, 1) := by decide +kernel
theorem dX3_commit_44 : decode cX3_commit 44 = .ok (.aload_n 0, 1) := by decide +kernel
theorem dX3_commit_45 : decode cX3_commit 45 = .ok (.iload_n 2, 1) := by decide +kernel
theorem dX3_commit_46 : decode cX3_commit 46 = .ok (.invokevirtual 365, 3) := by decide +kernel
theorem dX3_commit_49 : decode cX3_commit 49 = .ok (.return_, 1) := by decide +kernel
theorem dX3_endSettledQuarrels_0 : decode cX3_endSettledQuarrels 0 = .ok (.iconst 0, 1) := by decide +kernel
theorem dX3_endSettledQuarrels_1 : decode cX3_endSettledQuarrels 1 = .ok (.istore_n 2, 1) := by decide +kernel
theorem dX3_endSettledQuarrels_2 : decode cX3_endSettledQuarrels 2 = .ok (.iload_n 2, 1) := by decide +kernel
theorem dX3_endSettledQuarrels_3 : decode cX3_endSettledQuarrels 3 = .ok (.iconst 4, 1) := by decide +kernel
theorem dX3_endSettledQuarrels_4 : decode cX3_endSettledQuarrels 4 = .ok (.if_icmp .ge 85, 3) := by decide +kernel
theorem dX3_endSettledQuarrels_7 : decode cX3_endSettledQuarrels 7 = .ok (.aload_n 0, 1) := by decide +kernel
theorem dX3_endSettledQuarrels_8 : decode cX3_endSettledQuarrels 8 = .ok (.getfield 11, 3) := by decide +kernel
theorem dX3_endSettledQuarrels_11 : decode cX3_endSettledQuarrels 11 = .ok (.iload_n 2, 1) := by decide +kernel
theorem dX3_endSettledQuarrels_12 : decode cX3_endSettledQuarrels 12 = .ok (.aaload, 1) := by decide +kernel
theorem dX3_endSettledQuarrels_13 : decode cX3_endSettledQuarrels 13 = .ok (.getfield 190, 3) := by decide +kernel
theorem dX3_endSettledQuarrels_16 : decode cX3_endSettledQuarrels 16 = .ok (.iload_n 1, 1) := by decide +kernel
theorem dX3_endSettledQuarrels_17 : decode cX3_endSettledQuarrels 17 = .ok (.iaload, 1) := by decide +kernel
theorem dX3_endSettledQuarrels_18 : decode cX3_endSettledQuarrels 18 = .ok (.istore_n 3, 1) := by decide +kernel
theorem dX3_endSettledQuarrels_19 : decode cX3_endSettledQuarrels 19 = .ok (.iconst 0, 1) := by decide +kernel
theorem dX3_endSettledQuarrels_20 : decode cX3_endSettledQuarrels 20 = .ok (.istore 4, 2) := by decide +kernel
theorem dX3_endSettledQuarrels_22 : decode cX3_endSettledQuarrels 22 = .ok (.iload 4, 2) := by decide +kernel
theorem dX3_endSettledQuarrels_24 : decode cX3_endSettledQuarrels 24 = .ok (.iconst 4, 1) := by decide +kernel
theorem dX3_endSettledQuarrels_25 : decode cX3_endSettledQuarrels 25 = .ok (.if_icmp .ge 58, 3) := by decide +kernel
theorem dX3_endSettledQuarrels_28 : decode cX3_endSettledQuarrels 28 = .ok (.aload_n 0, 1) := by decide +kernel
theorem dX3_endSettledQuarrels_29 : decode cX3_endSettledQuarrels 29 = .ok (.getfield 11, 3) := by decide +kernel
theorem dX3_endSettledQuarrels_32 : decode cX3_endSettledQuarrels 32 = .ok (.iload 4, 2) := by decide +kernel
theorem dX3_endSettledQuarrels_34 : decode cX3_endSettledQuarrels 34 = .ok (.aaload, 1) := by decide +kernel
theorem dX3_endSettledQuarrels_35 : decode cX3_endSettledQuarrels 35 = .ok (.getfield 190, 3) := by decide +kernel
theorem dX3_endSettledQuarrels_38 : decode cX3_endSettledQuarrels 38 = .ok (.iload_n 1, 1) := by decide +kernel
theorem dX3_endSettledQuarrels_39 : decode cX3_endSettledQuarrels 39 = .ok (.iaload, 1) := by decide +kernel
theorem dX3_endSettledQuarrels_40 : decode cX3_endSettledQuarrels 40 = .ok (.istore 5, 2) := by decide +kernel
theorem dX3_endSettledQuarrels_42 : decode cX3_endSettledQuarrels 42 = .ok (.iload_n 3, 1) := by decide +kernel
theorem dX3_endSettledQuarrels_43 : decode cX3_endSettledQuarrels 43 = .ok (.ifCond .eq 14, 3) := by decide +kernel
theorem dX3_endSettledQuarrels_46 : decode cX3_endSettledQuarrels 46 = .ok (.iload 5, 2) := by decide +kernel
theorem dX3_endSettledQuarrels_48 : decode cX3_endSettledQuarrels 48 = .ok (.ifCond .eq 9, 3) := by decide +kernel
theorem dX3_endSettledQuarrels_51 : decode cX3_endSettledQuarrels 51 = .ok (.iload_n 3, 1) := by decide +kernel
theorem dX3_endSettledQuarrels_52 : decode cX3_endSettledQuarrels 52 = .ok (.iload 5, 2) := by decide +kernel
theorem dX3_endSettledQuarrels_54 : decode cX3_endSettledQuarrels 54 = .ok (.if_icmp .ne 23, 3) := by decide +kernel
theorem dX3_endSettledQuarrels_57 : decode cX3_endSettledQuarrels 57 = .ok (.aload_n 0, 1) := by decide +kernel
theorem dX3_endSettledQuarrels_58 : decode cX3_endSettledQuarrels 58 = .ok (.getfield 11, 3) := by decide +kernel
theorem dX3_endSettledQuarrels_61 : decode cX3_endSettledQuarrels 61 = .ok (.iload_n 2, 1) := by decide +kernel
theorem dX3_endSettledQuarrels_62 : decode cX3_endSettledQuarrels 62 = .ok (.aaload, 1) := by decide +kernel
theorem dX3_endSettledQuarrels_63 : decode cX3_endSettledQuarrels 63 = .ok (.getfield 229, 3) := by decide +kernel
theorem dX3_endSettledQuarrels_66 : decode cX3_endSettledQuarrels 66 = .ok (.iload 4, 2) := by decide +kernel
theorem dX3_endSettledQuarrels_68 : decode cX3_endSettledQuarrels 68 = .ok (.dup2, 1) := by decide +kernel
theorem dX3_endSettledQuarrels_69 : decode cX3_endSettledQuarrels 69 = .ok (.iaload, 1) := by decide +kernel
theorem dX3_endSettledQuarrels_70 : decode cX3_endSettledQuarrels 70 = .ok (.iconst 1, 1) := by decide +kernel
theorem dX3_endSettledQuarrels_71 : decode cX3_endSettledQuarrels 71 = .ok (.iload_n 1, 1) := by decide +kernel
theorem dX3_endSettledQuarrels_72 : decode cX3_endSettledQuarrels 72 = .ok (.ishl, 1) := by decide +kernel
theorem dX3_endSettledQuarrels_73 : decode cX3_endSettledQuarrels 73 = .ok (.iconst (-1), 1) := by decide +kernel
theorem dX3_endSettledQuarrels_74 : decode cX3_endSettledQuarrels 74 = .ok (.ixor, 1) := by decide +kernel
theorem dX3_endSettledQuarrels_75 : decode cX3_endSettledQuarrels 75 = .ok (.iand, 1) := by decide +kernel
theorem dX3_endSettledQuarrels_76 : decode cX3_endSettledQuarrels 76 = .ok (.iastore, 1) := by decide +kernel
theorem dX3_endSettledQuarrels_77 : decode cX3_endSettledQuarrels 77 = .ok (.iinc 4 1, 3) := by decide +kernel
theorem dX3_endSettledQuarrels_80 : decode cX3_endSettledQuarrels 80 = .ok (.goto (-58), 3) := by decide +kernel
theorem dX3_endSettledQuarrels_83 : decode cX3_endSettledQuarrels 83 = .ok (.iinc 2 1, 3) := by decide +kernel
theorem dX3_endSettledQuarrels_86 : decode cX3_endSettledQuarrels 86 = .ok (.goto (-84), 3) := by decide +kernel
theorem dX3_endSettledQuarrels_89 : decode cX3_endSettledQuarrels 89 = .ok (.return_, 1) := by decide +kernel
theorem dX3_denyClaim_0 : decode cX3_denyClaim 0 = .ok (.aload_n 0, 1) := by decide +kernel
theorem dX3_denyClaim_1 : decode cX3_denyClaim 1 = .ok (.aload_n 1, 1) := by decide +kernel
theorem dX3_denyClaim_2 : decode cX3_denyClaim 2 = .ok (.aload_n 2, 1) := by decide +kernel
theorem dX3_denyClaim_3 : decode cX3_denyClaim 3 = .ok (.getfield 164, 3) := by decide +kernel
theorem dX3_denyClaim_6 : decode cX3_denyClaim 6 = .ok (.aload_n 2, 1) := by decide +kernel
theorem dX3_denyClaim_7 : decode cX3_denyClaim 7 = .ok (.getfield 167, 3) := by decide +kernel
theorem dX3_denyClaim_10 : decode cX3_denyClaim 10 = .ok (.invokestatic 360, 3) := by decide +kernel
theorem dX3_denyClaim_13 : decode cX3_denyClaim 13 = .ok (.invokevirtual 318, 3) := by decide +kernel
theorem dX3_denyClaim_16 : decode cX3_denyClaim 16 = .ok (.aload_n 2, 1) := by decide +kernel
theorem dX3_denyClaim_17 : decode cX3_denyClaim 17 = .ok (.getfield 105, 3) := by decide +kernel
theorem dX3_denyClaim_20 : decode cX3_denyClaim 20 = .ok (.astore_n 3, 1) := by decide +kernel
theorem dX3_denyClaim_21 : decode cX3_denyClaim 21 = .ok (.aload_n 3, 1) := by decide +kernel
theorem dX3_denyClaim_22 : decode cX3_denyClaim 22 = .ok (.getfield 190, 3) := by decide +kernel
theorem dX3_denyClaim_25 : decode cX3_denyClaim 25 = .ok (.aload_n 2, 1) := by decide +kernel
theorem dX3_denyClaim_26 : decode cX3_denyClaim 26 = .ok (.getfield 164, 3) := by decide +kernel
theorem dX3_denyClaim_29 : decode cX3_denyClaim 29 = .ok (.iaload, 1) := by decide +kernel
theorem dX3_denyClaim_30 : decode cX3_denyClaim 30 = .ok (.aload_n 2, 1) := by decide +kernel
theorem dX3_denyClaim_31 : decode cX3_denyClaim 31 = .ok (.getfield 167, 3) := by decide +kernel
theorem dX3_denyClaim_34 : decode cX3_denyClaim 34 = .ok (.if_icmp .ne 24, 3) := by decide +kernel
theorem dX3_denyClaim_37 : decode cX3_denyClaim 37 = .ok (.aload_n 3, 1) := by decide +kernel
theorem dX3_denyClaim_38 : decode cX3_denyClaim 38 = .ok (.getfield 229, 3) := by decide +kernel
theorem dX3_denyClaim_41 : decode cX3_denyClaim 41 = .ok (.aload_n 1, 1) := by decide +kernel
theorem dX3_denyClaim_42 : decode cX3_denyClaim 42 = .ok (.getfield 105, 3) := by decide +kernel
theorem dX3_denyClaim_45 : decode cX3_denyClaim 45 = .ok (.getfield 160, 3) := by decide +kernel
theorem dX3_denyClaim_48 : decode cX3_denyClaim 48 = .ok (.dup2, 1) := by decide +kernel
theorem dX3_denyClaim_49 : decode cX3_denyClaim 49 = .ok (.iaload, 1) := by decide +kernel
theorem dX3_denyClaim_50 : decode cX3_denyClaim 50 = .ok (.iconst 1, 1) := by decide +kernel
theorem dX3_denyClaim_51 : decode cX3_denyClaim 51 = .ok (.aload_n 2, 1) := by decide +kernel
theorem dX3_denyClaim_52 : decode cX3_denyClaim 52 = .ok (.getfield 164, 3) := by decide +kernel
theorem dX3_denyClaim_55 : decode cX3_denyClaim 55 = .ok (.ishl, 1) := by decide +kernel
theorem dX3_denyClaim_56 : decode cX3_denyClaim 56 = .ok (.ior, 1) := by decide +kernel
theorem dX3_denyClaim_57 : decode cX3_denyClaim 57 = .ok (.iastore, 1) := by decide +kernel
theorem dX3_denyClaim_58 : decode cX3_denyClaim 58 = .ok (.return_, 1) := by decide +kernel
theorem dX3_giveReason_0 : decode cX3_giveReason 0 = .ok (.aload_n 1, 1) := by decide +kernel
theorem dX3_giveReason_1 : decode cX3_giveReason 1 = .ok (.getfield 105, 3) := by decide +kernel
theorem dX3_giveReason_4 : decode cX3_giveReason 4 = .ok (.astore_n 2, 1) := by decide +kernel
theorem dX3_giveReason_5 : decode cX3_giveReason 5 = .ok (.aload_n 0, 1) := by decide +kernel
theorem dX3_giveReason_6 : decode cX3_giveReason 6 = .ok (.aload_n 1, 1) := by decide +kernel
theorem dX3_giveReason_7 : decode cX3_giveReason 7 = .ok (.aload_n 1, 1) := by decide +kernel
theorem dX3_giveReason_8 : decode cX3_giveReason 8 = .ok (.getfield 167, 3) := by decide +kernel
theorem dX3_giveReason_11 : decode cX3_giveReason 11 = .ok (.iconst 1, 1) := by decide +kernel
theorem dX3_giveReason_12 : decode cX3_giveReason 12 = .ok (.invokevirtual 318, 3) := by decide +kernel
theorem dX3_giveReason_15 : decode cX3_giveReason 15 = .ok (.aload_n 2, 1) := by decide +kernel
theorem dX3_giveReason_16 : decode cX3_giveReason 16 = .ok (.getfield 212, 3) := by decide +kernel
theorem dX3_giveReason_19 : decode cX3_giveReason 19 = .ok (.aload_n 1, 1) := by decide +kernel
theorem dX3_giveReason_20 : decode cX3_giveReason 20 = .ok (.getfield 164, 3) := by decide +kernel
theorem dX3_giveReason_23 : decode cX3_giveReason 23 = .ok (.dup2, 1) := by decide +kernel
theorem dX3_giveReason_24 : decode cX3_giveReason 24 = .ok (.iaload, 1) := by decide +kernel
theorem dX3_giveReason_25 : decode cX3_giveReason 25 = .ok (.iconst 1, 1) := by decide +kernel
theorem dX3_giveReason_26 : decode cX3_giveReason 26 = .ok (.aload_n 1, 1) := by decide +kernel
theorem dX3_giveReason_27 : decode cX3_giveReason 27 = .ok (.getfield 167, 3) := by decide +kernel
theorem dX3_giveReason_30 : decode cX3_giveReason 30 = .ok (.ishl, 1) := by decide +kernel
theorem dX3_giveReason_31 : decode cX3_giveReason 31 = .ok (.ior, 1) := by decide +kernel
theorem dX3_giveReason_32 : decode cX3_giveReason 32 = .ok (.iastore, 1) := by decide +kernel
theorem dX3_giveReason_33 : decode cX3_giveReason 33 = .ok (.iconst 0, 1) := by decide +kernel
theorem dX3_giveReason_34 : decode cX3_giveReason 34 = .ok (.istore_n 3, 1) := by decide +kernel
theorem dX3_giveReason_35 : decode cX3_giveReason 35 = .ok (.iload_n 3, 1) := by decide +kernel
theorem dX3_giveReason_36 : decode cX3_giveReason 36 = .ok (.iconst 4, 1) := by decide +kernel
theorem dX3_giveReason_37 : decode cX3_giveReason 37 = .ok (.if_icmp .ge 26, 3) := by decide +kernel
theorem dX3_giveReason_40 : decode cX3_giveReason 40 = .ok (.aload_n 2, 1) := by decide +kernel
theorem dX3_giveReason_41 : decode cX3_giveReason 41 = .ok (.getfield 229, 3) := by decide +kernel
theorem dX3_giveReason_44 : decode cX3_giveReason 44 = .ok (.iload_n 3, 1) := by decide +kernel
theorem dX3_giveReason_45 : decode cX3_giveReason 45 = .ok (.dup2, 1) := by decide +kernel
theorem dX3_giveReason_46 : decode cX3_giveReason 46 = .ok (.iaload, 1) := by decide +kernel
theorem dX3_giveReason_47 : decode cX3_giveReason 47 = .ok (.iconst 1, 1) := by decide +kernel
theorem dX3_giveReason_48 : decode cX3_giveReason 48 = .ok (.aload_n 1, 1) := by decide +kernel
theorem dX3_giveReason_49 : decode cX3_giveReason 49 = .ok (.getfield 164, 3) := by decide +kernel
theorem dX3_giveReason_52 : decode cX3_giveReason 52 = .ok (.ishl, 1) := by decide +kernel
theorem dX3_giveReason_53 : decode cX3_giveReason 53 = .ok (.iconst (-1), 1) := by decide +kernel
theorem dX3_giveReason_54 : decode cX3_giveReason 54 = .ok (.ixor, 1) := by decide +kernel
theorem dX3_giveReason_55 : decode cX3_giveReason 55 = .ok (.iand, 1) := by decide +kernel
theorem dX3_giveReason_56 : decode cX3_giveReason 56 = .ok (.iastore, 1) := by decide +kernel
theorem dX3_giveReason_57 : decode cX3_giveReason 57 = .ok (.iinc 3 1, 3) := by decide +kernel
theorem dX3_giveReason_60 : decode cX3_giveReason 60 = .ok (.goto (-25), 3) := by decide +kernel
theorem dX3_giveReason_63 : decode cX3_giveReason 63 = .ok (.return_, 1) := by decide +kernel
theorem dX3_isGround_0 : decode cX3_isGround 0 = .ok (.iconst 0, 1) := by decide +kernel
theorem dX3_isGround_1 : decode cX3_isGround 1 = .ok (.istore 4, 2) := by decide +kernel
theorem dX3_isGround_3 : decode cX3_isGround 3 = .ok (.iload 4, 2) := by decide +kernel
theorem dX3_isGround_5 : decode cX3_isGround 5 = .ok (.iconst 4, 1) := by decide +kernel
theorem dX3_isGround_6 : decode cX3_isGround 6 = .ok (.if_icmp .ge 52, 3) := by decide +kernel
theorem dX3_isGround_9 : decode cX3_isGround 9 = .ok (.iload_n 1, 1) := by decide +kernel
theorem dX3_isGround_10 : decode cX3_isGround 10 = .ok (.iload 4, 2) := by decide +kernel
theorem dX3_isGround_12 : decode cX3_isGround 12 = .ok (.invokestatic 49, 3) := by decide +kernel
theorem dX3_isGround_15 : decode cX3_isGround 15 = .ok (.ifCond .eq 37, 3) := by decide +kernel
theorem dX3_isGround_18 : decode cX3_isGround 18 = .ok (.aload_n 0, 1) := by decide +kernel
theorem dX3_isGround_19 : decode cX3_isGround 19 = .ok (.getfield 11, 3) := by decide +kernel
theorem dX3_isGround_22 : decode cX3_isGround 22 = .ok (.iload 4, 2) := by decide +kernel
theorem dX3_isGround_24 : decode cX3_isGround 24 = .ok (.aaload, 1) := by decide +kernel
theorem dX3_isGround_25 : decode cX3_isGround 25 = .ok (.getfield 190, 3) := by decide +kernel
theorem dX3_isGround_28 : decode cX3_isGround 28 = .ok (.iload_n 2, 1) := by decide +kernel
theorem dX3_isGround_29 : decode cX3_isGround 29 = .ok (.iaload, 1) := by decide +kernel
theorem dX3_isGround_30 : decode cX3_isGround 30 = .ok (.iload_n 3, 1) := by decide +kernel
theorem dX3_isGround_31 : decode cX3_isGround 31 = .ok (.if_icmp .ne 21, 3) := by decide +kernel
theorem dX3_isGround_34 : decode cX3_isGround 34 = .ok (.aload_n 0, 1) := by decide +kernel
theorem dX3_isGround_35 : decode cX3_isGround 35 = .ok (.aload_n 0, 1) := by decide +kernel
theorem dX3_isGround_36 : decode cX3_isGround 36 = .ok (.getfield 11, 3) := by decide +kernel
theorem dX3_isGround_39 : decode cX3_isGround 39 = .ok (.iload 4, 2) := by decide +kernel
theorem dX3_isGround_41 : decode cX3_isGround 41 = .ok (.aaload, 1) := by decide +kernel
theorem dX3_isGround_42 : decode cX3_isGround 42 = .ok (.iload_n 1, 1) := by decide +kernel
theorem dX3_isGround_43 : decode cX3_isGround 43 = .ok (.iload_n 2, 1) := by decide +kernel
theorem dX3_isGround_44 : decode cX3_isGround 44 = .ok (.invokevirtual 368, 3) := by decide +kernel
theorem dX3_isGround_47 : decode cX3_isGround 47 = .ok (.ifCond .eq 5, 3) := by decide +kernel
theorem dX3_isGround_50 : decode cX3_isGround 50 = .ok (.iconst 1, 1) := by decide +kernel
theorem dX3_isGround_51 : decode cX3_isGround 51 = .ok (.ireturn, 1) := by decide +kernel
theorem dX3_isGround_52 : decode cX3_isGround 52 = .ok (.iinc 4 1, 3) := by decide +kernel
theorem dX3_isGround_55 : decode cX3_isGround 55 = .ok (.goto (-52), 3) := by decide +kernel
theorem dX3_isGround_58 : decode cX3_isGround 58 = .ok (.iconst 0, 1) := by decide +kernel
theorem dX3_isGround_59 : decode cX3_isGround 59 = .ok (.ireturn, 1) := by decide +kernel
theorem dX3_areWith_0 : decode cX3_areWith 0 = .ok (.aload_n 1, 1) := by decide +kernel
theorem dX3_areWith_1 : decode cX3_areWith 1 = .ok (.getfield 190, 3) := by decide +kernel
theorem dX3_areWith_4 : decode cX3_areWith 4 = .ok (.iload_n 3, 1) := by decide +kernel
theorem dX3_areWith_5 : decode cX3_areWith 5 = .ok (.iaload, 1) := by decide +kernel
theorem dX3_areWith_6 : decode cX3_areWith 6 = .ok (.istore 4, 2) := by decide +kernel
theorem dX3_areWith_8 : decode cX3_areWith 8 = .ok (.aload_n 1, 1) := by decide +kernel
theorem dX3_areWith_9 : decode cX3_areWith 9 = .ok (.getfield 193, 3) := by decide +kernel
theorem dX3_areWith_12 : decode cX3_areWith 12 = .ok (.iload_n 3, 1) := by decide +kernel
theorem dX3_areWith_13 : decode cX3_areWith 13 = .ok (.aaload, 1) := by decide +kernel
theorem dX3_areWith_14 : decode cX3_areWith 14 = .ok (.astore 5, 2) := by decide +kernel
theorem dX3_areWith_16 : decode cX3_areWith 16 = .ok (.iconst 0, 1) := by decide +kernel
theorem dX3_areWith_17 : decode cX3_areWith 17 = .ok (.istore 6, 2) := by decide +kernel
theorem dX3_areWith_19 : decode cX3_areWith 19 = .ok (.iload 6, 2) := by decide +kernel
theorem dX3_areWith_21 : decode cX3_areWith 21 = .ok (.iconst 4, 1) := by decide +kernel
theorem dX3_areWith_22 : decode cX3_areWith 22 = .ok (.if_icmp .ge 89, 3) := by decide +kernel
theorem dX3_areWith_25 : decode cX3_areWith 25 = .ok (.iload_n 2, 1) := by decide +kernel
theorem dX3_areWith_26 : decode cX3_areWith 26 = .ok (.iload 6, 2) := by decide +kernel
theorem dX3_areWith_28 : decode cX3_areWith 28 = .ok (.invokestatic 49, 3) := by decide +kernel
theorem dX3_areWith_31 : decode cX3_areWith 31 = .ok (.ifCond .eq 74, 3) := by decide +kernel
theorem dX3_areWith_34 : decode cX3_areWith 34 = .ok (.iload 6, 2) := by decide +kernel
theorem dX3_areWith_36 : decode cX3_areWith 36 = .ok (.aload_n 1, 1) := by decide +kernel
theorem dX3_areWith_37 : decode cX3_areWith 37 = .ok (.getfield 160, 3) := by decide +kernel
theorem dX3_areWith_40 : decode cX3_areWith 40 = .ok (.if_icmp .eq 65, 3) := by decide +kernel
theorem dX3_areWith_43 : decode cX3_areWith 43 = .ok (.aload_n 0, 1) := by decide +kernel
theorem dX3_areWith_44 : decode cX3_areWith 44 = .ok (.getfield 11, 3) := by decide +kernel
theorem dX3_areWith_47 : decode cX3_areWith 47 = .ok (.iload 6, 2) := by decide +kernel
theorem dX3_areWith_49 : decode cX3_areWith 49 = .ok (.aaload, 1) := by decide +kernel
theorem dX3_areWith_50 : decode cX3_areWith 50 = .ok (.getfield 190, 3) := by decide +kernel
theorem dX3_areWith_53 : decode cX3_areWith 53 = .ok (.iload_n 3, 1) := by decide +kernel
theorem dX3_areWith_54 : decode cX3_areWith 54 = .ok (.iaload, 1) := by decide +kernel
theorem dX3_areWith_55 : decode cX3_areWith 55 = .ok (.istore 7, 2) := by decide +kernel
theorem dX3_areWith_57 : decode cX3_areWith 57 = .ok (.aload 5, 2) := by decide +kernel
theorem dX3_areWith_59 : decode cX3_areWith 59 = .ok (.ifnull 29, 3) := by decide +kernel
theorem dX3_areWith_62 : decode cX3_areWith 62 = .ok (.aload 5, 2) := by decide +kernel
theorem dX3_areWith_64 : decode cX3_areWith 64 = .ok (.getfield 187, 3) := by decide +kernel
theorem dX3_areWith_67 : decode cX3_areWith 67 = .ok (.iload 6, 2) := by decide +kernel
theorem dX3_areWith_69 : decode cX3_areWith 69 = .ok (.iaload, 1) := by decide +kernel
theorem dX3_areWith_70 : decode cX3_areWith 70 = .ok (.iconst 4, 1) := by decide +kernel
theorem dX3_areWith_71 : decode cX3_areWith 71 = .ok (.if_icmp .ne 17, 3) := by decide +kernel
theorem dX3_areWith_74 : decode cX3_areWith 74 = .ok (.iload 7, 2) := by decide +kernel
theorem dX3_areWith_76 : decode cX3_areWith 76 = .ok (.iload 4, 2) := by decide +kernel
theorem dX3_areWith_78 : decode cX3_areWith 78 = .ok (.invokestatic 360, 3) := by decide +kernel
theorem dX3_areWith_81 : decode cX3_areWith 81 = .ok (.if_icmp .eq 7, 3) := by decide +kernel
theorem dX3_areWith_84 : decode cX3_areWith 84 = .ok (.iconst 1, 1) := by decide +kernel
theorem dX3_areWith_85 : decode cX3_areWith 85 = .ok (.goto 4, 3) := by decide +kernel
theorem dX3_areWith_88 : decode cX3_areWith 88 = .ok (.iconst 0, 1) := by decide +kernel
theorem dX3_areWith_89 : decode cX3_areWith 89 = .ok (.istore 8, 2) := by decide +kernel
theorem dX3_areWith_91 : decode cX3_areWith 91 = .ok (.iload 8, 2) := by decide +kernel
theorem dX3_areWith_93 : decode cX3_areWith 93 = .ok (.ifCond .ne 12, 3) := by decide +kernel
theorem dX3_areWith_96 : decode cX3_areWith 96 = .ok (.iload 7, 2) := by decide +kernel
theorem dX3_areWith_98 : decode cX3_areWith 98 = .ok (.iload 4, 2) := by decide +kernel
theorem dX3_areWith_100 : decode cX3_areWith 100 = .ok (.if_icmp .eq 5, 3) := by decide +kernel
theorem dX3_areWith_103 : decode cX3_areWith 103 = .ok (.iconst 0, 1) := by decide +kernel
theorem dX3_areWith_104 : decode cX3_areWith 104 = .ok (.ireturn, 1) := by decide +kernel
theorem dX3_areWith_105 : decode cX3_areWith 105 = .ok (.iinc 6 1, 3) := by decide +kernel
theorem dX3_areWith_108 : decode cX3_areWith 108 = .ok (.goto (-89), 3) := by decide +kernel
theorem dX3_areWith_111 : decode cX3_areWith 111 = .ok (.iconst 1, 1) := by decide +kernel
theorem dX3_areWith_112 : decode cX3_areWith 112 = .ok (.ireturn, 1) := by decide +kernel
theorem dX3_bothOwn_0 : decode cX3_bothOwn 0 = .ok (.aload_n 0, 1) := by decide +kernel
theorem dX3_bothOwn_1 : decode cX3_bothOwn 1 = .ok (.aload_n 1, 1) := by decide +kernel
theorem dX3_bothOwn_2 : decode cX3_bothOwn 2 = .ok (.getfield 105, 3) := by decide +kernel
theorem dX3_bothOwn_5 : decode cX3_bothOwn 5 = .ok (.getfield 160, 3) := by decide +kernel
theorem dX3_bothOwn_8 : decode cX3_bothOwn 8 = .ok (.aload_n 1, 1) := by decide +kernel
theorem dX3_bothOwn_9 : decode cX3_bothOwn 9 = .ok (.getfield 164, 3) := by decide +kernel
theorem dX3_bothOwn_12 : decode cX3_bothOwn 12 = .ok (.invokevirtual 372, 3) := by decide +kernel
theorem dX3_bothOwn_15 : decode cX3_bothOwn 15 = .ok (.ifCond .eq 22, 3) := by decide +kernel
theorem dX3_bothOwn_18 : decode cX3_bothOwn 18 = .ok (.aload_n 0, 1) := by decide +kernel
theorem dX3_bothOwn_19 : decode cX3_bothOwn 19 = .ok (.aload_n 1, 1) := by decide +kernel
theorem dX3_bothOwn_20 : decode cX3_bothOwn 20 = .ok (.invokevirtual 224, 3) := by decide +kernel
theorem dX3_bothOwn_23 : decode cX3_bothOwn 23 = .ok (.aload_n 1, 1) := by decide +kernel
theorem dX3_bothOwn_24 : decode cX3_bothOwn 24 = .ok (.getfield 167, 3) := by decide +kernel
theorem dX3_bothOwn_27 : decode cX3_bothOwn 27 = .ok (.invokevirtual 372, 3) := by decide +kernel
theorem dX3_bothOwn_30 : decode cX3_bothOwn 30 = .ok (.ifCond .eq 7, 3) := by decide +kernel
theorem dX3_bothOwn_33 : decode cX3_bothOwn 33 = .ok (.iconst 1, 1) := by decide +kernel
theorem dX3_bothOwn_34 : decode cX3_bothOwn 34 = .ok (.goto 4, 3) := by decide +kernel
theorem dX3_bothOwn_37 : decode cX3_bothOwn 37 = .ok (.iconst 0, 1) := by decide +kernel
theorem dX3_bothOwn_38 : decode cX3_bothOwn 38 = .ok (.ireturn, 1) := by decide +kernel
theorem dX3_ownsAll_0 : decode cX3_ownsAll 0 = .ok (.iconst 0, 1) := by decide +kernel
theorem dX3_ownsAll_1 : decode cX3_ownsAll 1 = .ok (.istore_n 3, 1) := by decide +kernel
theorem dX3_ownsAll_2 : decode cX3_ownsAll 2 = .ok (.iload_n 3, 1) := by decide +kernel
theorem dX3_ownsAll_3 : decode cX3_ownsAll 3 = .ok (.bipush 8, 2) := by decide +kernel
theorem dX3_ownsAll_5 : decode cX3_ownsAll 5 = .ok (.if_icmp .ge 29, 3) := by decide +kernel
theorem dX3_ownsAll_8 : decode cX3_ownsAll 8 = .ok (.iload_n 2, 1) := by decide +kernel
theorem dX3_ownsAll_9 : decode cX3_ownsAll 9 = .ok (.iload_n 3, 1) := by decide +kernel
theorem dX3_ownsAll_10 : decode cX3_ownsAll 10 = .ok (.invokestatic 49, 3) := by decide +kernel
theorem dX3_ownsAll_13 : decode cX3_ownsAll 13 = .ok (.ifCond .eq 15, 3) := by decide +kernel
theorem dX3_ownsAll_16 : decode cX3_ownsAll 16 = .ok (.aload_n 0, 1) := by decide +kernel
theorem dX3_ownsAll_17 : decode cX3_ownsAll 17 = .ok (.getfield 15, 3) := by decide +kernel
theorem dX3_ownsAll_20 : decode cX3_ownsAll 20 = .ok (.iload_n 3, 1) := by decide +kernel
theorem dX3_ownsAll_21 : decode cX3_ownsAll 21 = .ok (.iaload, 1) := by decide +kernel
theorem dX3_ownsAll_22 : decode cX3_ownsAll 22 = .ok (.iload_n 1, 1) := by decide +kernel
theorem dX3_ownsAll_23 : decode cX3_ownsAll 23 = .ok (.if_icmp .eq 5, 3) := by decide +kernel
theorem dX3_ownsAll_26 : decode cX3_ownsAll 26 = .ok (.iconst 0, 1) := by decide +kernel
theorem dX3_ownsAll_27 : decode cX3_ownsAll 27 = .ok (.ireturn, 1) := by decide +kernel
theorem dX3_ownsAll_28 : decode cX3_ownsAll 28 = .ok (.iinc 3 1, 3) := by decide +kernel
theorem dX3_ownsAll_31 : decode cX3_ownsAll 31 = .ok (.goto (-29), 3) := by decide +kernel
theorem dX3_ownsAll_34 : decode cX3_ownsAll 34 = .ok (.iconst 1, 1) := by decide +kernel
theorem dX3_ownsAll_35 : decode cX3_ownsAll 35 = .ok (.ireturn, 1) := by decide +kernel
theorem dX3_openOffer_0 : decode cX3_openOffer 0 = .ok (.iconst 0, 1) := by decide +kernel
theorem dX3_openOffer_1 : decode cX3_openOffer 1 = .ok (.istore_n 2, 1) := by decide +kernel
theorem dX3_openOffer_2 : decode cX3_openOffer 2 = .ok (.iload_n 2, 1) := by decide +kernel
theorem dX3_openOffer_3 : decode cX3_openOffer 3 = .ok (.aload_n 0, 1) := by decide +kernel
theorem dX3_openOffer_4 : decode cX3_openOffer 4 = .ok (.getfield 22, 3) := by decide +kernel
theorem dX3_openOffer_7 : decode cX3_openOffer 7 = .ok (.invokevirtual 147, 3) := by decide +kernel
theorem dX3_openOffer_10 : decode cX3_openOffer 10 = .ok (.if_icmp .ge 82, 3) := by decide +kernel
theorem dX3_openOffer_13 : decode cX3_openOffer 13 = .ok (.aload_n 0, 1) := by decide +kernel
theorem dX3_openOffer_14 : decode cX3_openOffer 14 = .ok (.getfield 22, 3) := by decide +kernel
theorem dX3_openOffer_17 : decode cX3_openOffer 17 = .ok (.iload_n 2, 1) := by decide +kernel
theorem dX3_openOffer_18 : decode cX3_openOffer 18 = .ok (.invokevirtual 197, 3) := by decide +kernel
theorem dX3_openOffer_21 : decode cX3_openOffer 21 = .ok (.checkcast 106, 3) := by decide +kernel
theorem dX3_openOffer_24 : decode cX3_openOffer 24 = .ok (.astore_n 3, 1) := by decide +kernel
theorem dX3_openOffer_25 : decode cX3_openOffer 25 = .ok (.aload_n 3, 1) := by decide +kernel
theorem dX3_openOffer_26 : decode cX3_openOffer 26 = .ok (.getfield 105, 3) := by decide +kernel
theorem dX3_openOffer_29 : decode cX3_openOffer 29 = .ok (.aload_n 1, 1) := by decide +kernel
theorem dX3_openOffer_30 : decode cX3_openOffer 30 = .ok (.getfield 105, 3) := by decide +kernel
theorem dX3_openOffer_33 : decode cX3_openOffer 33 = .ok (.if_acmp .ne 18, 3) := by decide +kernel
theorem dX3_openOffer_36 : decode cX3_openOffer 36 = .ok (.aload_n 3, 1) := by decide +kernel
theorem dX3_openOffer_37 : decode cX3_openOffer 37 = .ok (.invokevirtual 224, 3) := by decide +kernel
theorem dX3_openOffer_40 : decode cX3_openOffer 40 = .ok (.aload_n 1, 1) := by decide +kernel
theorem dX3_openOffer_41 : decode cX3_openOffer 41 = .ok (.invokevirtual 224, 3) := by decide +kernel
theorem dX3_openOffer_44 : decode cX3_openOffer 44 = .ok (.if_icmp .ne 7, 3) := by decide +kernel
theorem dX3_openOffer_47 : decode cX3_openOffer 47 = .ok (.iconst 1, 1) := by decide +kernel
theorem dX3_openOffer_48 : decode cX3_openOffer 48 = .ok (.goto 4, 3) := by decide +kernel
theorem dX3_openOffer_51 : decode cX3_openOffer 51 = .ok (.iconst 0, 1) := by decide +kernel
theorem dX3_openOffer_52 : decode cX3_openOffer 52 = .ok (.istore 4, 2) := by decide +kernel
theorem dX3_openOffer_54 : decode cX3_openOffer 54 = .ok (.iload 4, 2) := by decide +kernel
theorem dX3_openOffer_56 : decode cX3_openOffer 56 = .ok (.ifCond .ne 25, 3) := by decide +kernel
theorem dX3_openOffer_59 : decode cX3_openOffer 59 = .ok (.aload_n 3, 1) := by decide +kernel
theorem dX3_openOffer_60 : decode cX3_openOffer 60 = .ok (.aload_n 1, 1) := by decide +kernel
theorem dX3_openOffer_61 : decode cX3_openOffer 61 = .ok (.getfield 105, 3) := by decide +kernel
theorem dX3_openOffer_64 : decode cX3_openOffer 64 = .ok (.invokevirtual 286, 3) := by decide +kernel
theorem dX3_openOffer_67 : decode cX3_openOffer 67 = .ok (.ifCond .eq 19, 3) := by decide +kernel
theorem dX3_openOffer_70 : decode cX3_openOffer 70 = .ok (.aload_n 1, 1) := by decide +kernel
theorem dX3_openOffer_71 : decode cX3_openOffer 71 = .ok (.aload_n 3, 1) := by decide +kernel
theorem dX3_openOffer_72 : decode cX3_openOffer 72 = .ok (.getfield 105, 3) := by decide +kernel
theorem dX3_openOffer_75 : decode cX3_openOffer 75 = .ok (.invokevirtual 286, 3) := by decide +kernel
theorem dX3_openOffer_78 : decode cX3_openOffer 78 = .ok (.ifCond .eq 8, 3) := by decide +kernel
theorem dX3_openOffer_81 : decode cX3_openOffer 81 = .ok (.aload_n 3, 1) := by decide +kernel
theorem dX3_openOffer_82 : decode cX3_openOffer 82 = .ok (.iconst 0, 1) := by decide +kernel
theorem dX3_openOffer_83 : decode cX3_openOffer 83 = .ok (.putfield 182, 3) := by decide +kernel
theorem dX3_openOffer_86 : decode cX3_openOffer 86 = .ok (.iinc 2 1, 3) := by decide +kernel
theorem dX3_openOffer_89 : decode cX3_openOffer 89 = .ok (.goto (-87), 3) := by decide +kernel
theorem dX3_openOffer_92 : decode cX3_openOffer 92 = .ok (.aload_n 1, 1) := by decide +kernel
theorem dX3_openOffer_93 : decode cX3_openOffer 93 = .ok (.iconst 1, 1) := by decide +kernel
theorem dX3_openOffer_94 : decode cX3_openOffer 94 = .ok (.putfield 182, 3) := by decide +kernel
theorem dX3_openOffer_97 : decode cX3_openOffer 97 = .ok (.return_, 1) := by decide +kernel
theorem dX3_acceptOffer_0 : decode cX3_acceptOffer 0 = .ok (.aload_n 2, 1) := by decide +kernel
theorem dX3_acceptOffer_1 : decode cX3_acceptOffer 1 = .ok (.iconst 0, 1) := by decide +kernel
theorem dX3_acceptOffer_2 : decode cX3_acceptOffer 2 = .ok (.putfield 182, 3) := by decide +kernel
theorem dX3_acceptOffer_5 : decode cX3_acceptOffer 5 = .ok (.aload_n 1, 1) := by decide +kernel
theorem dX3_acceptOffer_6 : decode cX3_acceptOffer 6 = .ok (.iconst 0, 1) := by decide +kernel
theorem dX3_acceptOffer_7 : decode cX3_acceptOffer 7 = .ok (.putfield 167, 3) := by decide +kernel
theorem dX3_acceptOffer_10 : decode cX3_acceptOffer 10 = .ok (.aload_n 0, 1) := by decide +kernel
theorem dX3_acceptOffer_11 : decode cX3_acceptOffer 11 = .ok (.aload_n 2, 1) := by decide +kernel
theorem dX3_acceptOffer_12 : decode cX3_acceptOffer 12 = .ok (.invokevirtual 290, 3) := by decide +kernel
theorem dX3_acceptOffer_15 : decode cX3_acceptOffer 15 = .ok (.ifCond .eq 45, 3) := by decide +kernel
theorem dX3_acceptOffer_18 : decode cX3_acceptOffer 18 = .ok (.aload_n 1, 1) := by decide +kernel
theorem dX3_acceptOffer_19 : decode cX3_acceptOffer 19 = .ok (.iconst 1, 1) := by decide +kernel
theorem dX3_acceptOffer_20 : decode cX3_acceptOffer 20 = .ok (.putfield 167, 3) := by decide +kernel
theorem dX3_acceptOffer_23 : decode cX3_acceptOffer 23 = .ok (.aload_n 0, 1) := by decide +kernel
theorem dX3_acceptOffer_24 : decode cX3_acceptOffer 24 = .ok (.aload_n 2, 1) := by decide +kernel
theorem dX3_acceptOffer_25 : decode cX3_acceptOffer 25 = .ok (.getfield 164, 3) := by decide +kernel
theorem dX3_acceptOffer_28 : decode cX3_acceptOffer 28 = .ok (.aload_n 2, 1) := by decide +kernel
theorem dX3_acceptOffer_29 : decode cX3_acceptOffer 29 = .ok (.invokevirtual 224, 3) := by decide +kernel
theorem dX3_acceptOffer_32 : decode cX3_acceptOffer 32 = .ok (.invokevirtual 375, 3) := by decide +kernel
theorem dX3_acceptOffer_35 : decode cX3_acceptOffer 35 = .ok (.aload_n 0, 1) := by decide +kernel
theorem dX3_acceptOffer_36 : decode cX3_acceptOffer 36 = .ok (.aload_n 2, 1) := by decide +kernel
theorem dX3_acceptOffer_37 : decode cX3_acceptOffer 37 = .ok (.getfield 167, 3) := by decide +kernel
theorem dX3_acceptOffer_40 : decode cX3_acceptOffer 40 = .ok (.aload_n 2, 1) := by decide +kernel
theorem dX3_acceptOffer_41 : decode cX3_acceptOffer 41 = .ok (.getfield 105, 3) := by decide +kernel
theorem dX3_acceptOffer_44 : decode cX3_acceptOffer 44 = .ok (.getfield 160, 3) := by decide +kernel
theorem dX3_acceptOffer_47 : decode cX3_acceptOffer 47 = .ok (.invokevirtual 375, 3) := by decide +kernel
theorem dX3_acceptOffer_50 : decode cX3_acceptOffer 50 = .ok (.aload_n 0, 1) := by decide +kernel
theorem dX3_acceptOffer_51 : decode cX3_acceptOffer 51 = .ok (.dup, 1) := by decide +kernel
theorem dX3_acceptOffer_52 : decode cX3_acceptOffer 52 = .ok (.getfield 238, 3) := by decide +kernel
theorem dX3_acceptOffer_55 : decode cX3_acceptOffer 55 = .ok (.iconst 1, 1) := by decide +kernel
theorem dX3_acceptOffer_56 : decode cX3_acceptOffer 56 = .ok (.iadd, 1) := by decide +kernel
theorem dX3_acceptOffer_57 : decode cX3_acceptOffer 57 = .ok (.putfield 238, 3) := by decide +kernel
theorem dX3_acceptOffer_60 : decode cX3_acceptOffer 60 = .ok (.return_, 1) := by decide +kernel
theorem dX3_handOver_0 : decode cX3_handOver 0 = .ok (.iconst 0, 1) := by decide +kernel
theorem dX3_handOver_1 : decode cX3_handOver 1 = .ok (.istore_n 3, 1) := by decide +kernel
theorem dX3_handOver_2 : decode cX3_handOver 2 = .ok (.iload_n 3, 1) := by decide +kernel
theorem dX3_handOver_3 : decode cX3_handOver 3 = .ok (.bipush 8, 2) := by decide +kernel
theorem dX3_handOver_5 : decode cX3_handOver 5 = .ok (.if_icmp .ge 24, 3) := by decide +kernel
theorem dX3_handOver_8 : decode cX3_handOver 8 = .ok (.iload_n 1, 1) := by decide +kernel
theorem dX3_handOver_9 : decode cX3_handOver 9 = .ok (.iload_n 3, 1) := by decide +kernel
theorem dX3_handOver_10 : decode cX3_handOver 10 = .ok (.invokestatic 49, 3) := by decide +kernel
theorem dX3_handOver_13 : decode cX3_handOver 13 = .ok (.ifCond .eq 10, 3) := by decide +kernel
theorem dX3_handOver_16 : decode cX3_handOver 16 = .ok (.aload_n 0, 1) := by decide +kernel
theorem dX3_handOver_17 : decode cX3_handOver 17 = .ok (.getfield 15, 3) := by decide +kernel
theorem dX3_handOver_20 : decode cX3_handOver 20 = .ok (.iload_n 3, 1) := by decide +kernel
theorem dX3_handOver_21 : decode cX3_handOver 21 = .ok (.iload_n 2, 1) := by decide +kernel
theorem dX3_handOver_22 : decode cX3_handOver 22 = .ok (.iastore, 1) := by decide +kernel
theorem dX3_handOver_23 : decode cX3_handOver 23 = .ok (.iinc 3 1, 3) := by decide +kernel
theorem dX3_handOver_26 : decode cX3_handOver 26 = .ok (.goto (-24), 3) := by decide +kernel
theorem dX3_handOver_29 : decode cX3_handOver 29 = .ok (.return_, 1) := by decide +kernel
theorem dX3_deliver_0 : decode cX3_deliver 0 = .ok (.iconst 0, 1) := by decide +kernel
theorem dX3_deliver_1 : decode cX3_deliver 1 = .ok (.istore_n 2, 1) := by decide +kernel
theorem dX3_deliver_2 : decode cX3_deliver 2 = .ok (.iload_n 2, 1) := by decide +kernel
theorem dX3_deliver_3 : decode cX3_deliver 3 = .ok (.iconst 4, 1) := by decide +kernel
theorem dX3_deliver_4 : decode cX3_deliver 4 = .ok (.if_icmp .ge 81, 3) := by decide +kernel
theorem dX3_deliver_7 : decode cX3_deliver 7 = .ok (.aload_n 0, 1) := by decide +kernel
theorem dX3_deliver_8 : decode cX3_deliver 8 = .ok (.getfield 11, 3) := by decide +kernel
theorem dX3_deliver_11 : decode cX3_deliver 11 = .ok (.iload_n 2, 1) := by decide +kernel
theorem dX3_deliver_12 : decode cX3_deliver 12 = .ok (.aaload, 1) := by decide +kernel
theorem dX3_deliver_13 : decode cX3_deliver 13 = .ok (.astore_n 3, 1) := by decide +kernel
theorem dX3_deliver_14 : decode cX3_deliver 14 = .ok (.aload_n 1, 1) := by decide +kernel
theorem dX3_deliver_15 : decode cX3_deliver 15 = .ok (.aload_n 3, 1) := by decide +kernel
theorem dX3_deliver_16 : decode cX3_deliver 16 = .ok (.invokevirtual 286, 3) := by decide +kernel
theorem dX3_deliver_19 : decode cX3_deliver 19 = .ok (.ifCond .eq 60, 3) := by decide +kernel
theorem dX3_deliver_22 : decode cX3_deliver 22 = .ok (.aload_n 1, 1) := by decide +kernel
theorem dX3_deliver_23 : decode cX3_deliver 23 = .ok (.getfield 187, 3) := by decide +kernel
theorem dX3_deliver_26 : decode cX3_deliver 26 = .ok (.iload_n 2, 1) := by decide +kernel
theorem dX3_deliver_27 : decode cX3_deliver 27 = .ok (.iaload, 1) := by decide +kernel
theorem dX3_deliver_28 : decode cX3_deliver 28 = .ok (.ifCond .eq 13, 3) := by decide +kernel
theorem dX3_deliver_31 : decode cX3_deliver 31 = .ok (.aload_n 1, 1) := by decide +kernel
theorem dX3_deliver_32 : decode cX3_deliver 32 = .ok (.getfield 187, 3) := by decide +kernel
theorem dX3_deliver_35 : decode cX3_deliver 35 = .ok (.iload_n 2, 1) := by decide +kernel
theorem dX3_deliver_36 : decode cX3_deliver 36 = .ok (.iaload, 1) := by decide +kernel
theorem dX3_deliver_37 : decode cX3_deliver 37 = .ok (.iconst 1, 1) := by decide +kernel
theorem dX3_deliver_38 : decode cX3_deliver 38 = .ok (.if_icmp .ne 41, 3) := by decide +kernel
theorem dX3_deliver_41 : decode cX3_deliver 41 = .ok (.aload_n 1, 1) := by decide +kernel
theorem dX3_deliver_42 : decode cX3_deliver 42 = .ok (.getfield 187, 3) := by decide +kernel
theorem dX3_deliver_45 : decode cX3_deliver 45 = .ok (.iload_n 2, 1) := by decide +kernel
theorem dX3_deliver_46 : decode cX3_deliver 46 = .ok (.aload_n 0, 1) := by decide +kernel
theorem dX3_deliver_47 : decode cX3_deliver 47 = .ok (.aload_n 1, 1) := by decide +kernel
theorem dX3_deliver_48 : decode cX3_deliver 48 = .ok (.aload_n 3, 1) := by decide +kernel
theorem dX3_deliver_49 : decode cX3_deliver 49 = .ok (.invokevirtual 379, 3) := by decide +kernel
theorem dX3_deliver_52 : decode cX3_deliver 52 = .ok (.iastore, 1) := by decide +kernel
theorem dX3_deliver_53 : decode cX3_deliver 53 = .ok (.aload_n 1, 1) := by decide +kernel
theorem dX3_deliver_54 : decode cX3_deliver 54 = .ok (.getfield 383, 3) := by decide +kernel
theorem dX3_deliver_57 : decode cX3_deliver 57 = .ok (.iload_n 2, 1) := by decide +kernel
theorem dX3_deliver_58 : decode cX3_deliver 58 = .ok (.aload_n 0, 1) := by decide +kernel
theorem dX3_deliver_59 : decode cX3_deliver 59 = .ok (.getfield 76, 3) := by decide +kernel
theorem dX3_deliver_62 : decode cX3_deliver 62 = .ok (.aload_n 1, 1) := by decide +kernel
theorem dX3_deliver_63 : decode cX3_deliver 63 = .ok (.getfield 187, 3) := by decide +kernel
theorem dX3_deliver_66 : decode cX3_deliver 66 = .ok (.iload_n 2, 1) := by decide +kernel
theorem dX3_deliver_67 : decode cX3_deliver 67 = .ok (.iaload, 1) := by decide +kernel
theorem dX3_deliver_68 : decode cX3_deliver 68 = .ok (.iconst 2, 1) := by decide +kernel
theorem dX3_deliver_69 : decode cX3_deliver 69 = .ok (.if_icmp .ne 7, 3) := by decide +kernel
theorem dX3_deliver_72 : decode cX3_deliver 72 = .ok (.iconst 2, 1) := by decide +kernel
theorem dX3_deliver_73 : decode cX3_deliver 73 = .ok (.goto 4, 3) := by decide +kernel
theorem dX3_deliver_76 : decode cX3_deliver 76 = .ok (.iconst 0, 1) := by decide +kernel
theorem dX3_deliver_77 : decode cX3_deliver 77 = .ok (.iadd, 1) := by decide +kernel
theorem dX3_deliver_78 : decode cX3_deliver 78 = .ok (.iastore, 1) := by decide +kernel
theorem dX3_deliver_79 : decode cX3_deliver 79 = .ok (.iinc 2 1, 3) := by decide +kernel
theorem dX3_deliver_82 : decode cX3_deliver 82 = .ok (.goto (-80), 3) := by decide +kernel
theorem dX3_deliver_85 : decode cX3_deliver 85 = .ok (.return_, 1) := by decide +kernel
theorem dX3_reachOf_0 : decode cX3_reachOf 0 = .ok (.aload_n 2, 1) := by decide +kernel
theorem dX3_reachOf_1 : decode cX3_reachOf 1 = .ok (.aload_n 0, 1) := by decide +kernel
theorem dX3_reachOf_2 : decode cX3_reachOf 2 = .ok (.getfield 76, 3) := by decide +kernel
theorem dX3_reachOf_5 : decode cX3_reachOf 5 = .ok (.invokevirtual 386, 3) := by decide +kernel
theorem dX3_reachOf_8 : decode cX3_reachOf 8 = .ok (.ifCond .eq 5, 3) := by decide +kernel
theorem dX3_reachOf_11 : decode cX3_reachOf 11 = .ok (.iconst 1, 1) := by decide +kernel
theorem dX3_reachOf_12 : decode cX3_reachOf 12 = .ok (.ireturn, 1) := by decide +kernel
theorem dX3_reachOf_13 : decode cX3_reachOf 13 = .ok (.aload_n 2, 1) := by decide +kernel
theorem dX3_reachOf_14 : decode cX3_reachOf 14 = .ok (.getfield 60, 3) := by decide +kernel
theorem dX3_reachOf_17 : decode cX3_reachOf 17 = .ok (.aload_n 1, 1) := by decide +kernel
theorem dX3_reachOf_18 : decode cX3_reachOf 18 = .ok (.getfield 389, 3) := by decide +kernel
theorem dX3_reachOf_21 : decode cX3_reachOf 21 = .ok (.invokestatic 49, 3) := by decide +kernel
theorem dX3_reachOf_24 : decode cX3_reachOf 24 = .ok (.ifCond .eq 5, 3) := by decide +kernel
theorem dX3_reachOf_27 : decode cX3_reachOf 27 = .ok (.iconst 3, 1) := by decide +kernel
theorem dX3_reachOf_28 : decode cX3_reachOf 28 = .ok (.ireturn, 1) := by decide +kernel
theorem dX3_reachOf_29 : decode cX3_reachOf 29 = .ok (.iconst 0, 1) := by decide +kernel
theorem dX3_reachOf_30 : decode cX3_reachOf 30 = .ok (.istore_n 3, 1) := by decide +kernel
theorem dX3_reachOf_31 : decode cX3_reachOf 31 = .ok (.iload_n 3, 1) := by decide +kernel
theorem dX3_reachOf_32 : decode cX3_reachOf 32 = .ok (.iconst 4, 1) := by decide +kernel
theorem dX3_reachOf_33 : decode cX3_reachOf 33 = .ok (.if_icmp .ge 82, 3) := by decide +kernel
theorem dX3_reachOf_36 : decode cX3_reachOf 36 = .ok (.aload_n 0, 1) := by decide +kernel
theorem dX3_reachOf_37 : decode cX3_reachOf 37 = .ok (.getfield 11, 3) := by decide +kernel
theorem dX3_reachOf_40 : decode cX3_reachOf 40 = .ok (.iload_n 3, 1) := by decide +kernel
theorem dX3_reachOf_41 : decode cX3_reachOf 41 = .ok (.aaload, 1) := by decide +kernel
theorem dX3_reachOf_42 : decode cX3_reachOf 42 = .ok (.astore 4, 2) := by decide +kernel
theorem dX3_reachOf_44 : decode cX3_reachOf 44 = .ok (.aload 4, 2) := by decide +kernel
theorem dX3_reachOf_46 : decode cX3_reachOf 46 = .ok (.aload_n 2, 1) := by decide +kernel
theorem dX3_reachOf_47 : decode cX3_reachOf 47 = .ok (.if_acmp .eq 62, 3) := by decide +kernel
theorem dX3_reachOf_50 : decode cX3_reachOf 50 = .ok (.aload_n 1, 1) := by decide +kernel
theorem dX3_reachOf_51 : decode cX3_reachOf 51 = .ok (.aload 4, 2) := by decide +kernel
theorem dX3_reachOf_53 : decode cX3_reachOf 53 = .ok (.invokevirtual 286, 3) := by decide +kernel
theorem dX3_reachOf_56 : decode cX3_reachOf 56 = .ok (.ifCond .eq 53, 3) := by decide +kernel
theorem dX3_reachOf_59 : decode cX3_reachOf 59 = .ok (.aload 4, 2) := by decide +kernel
theorem dX3_reachOf_61 : decode cX3_reachOf 61 = .ok (.getfield 66, 3) := by decide +kernel
theorem dX3_reachOf_64 : decode cX3_reachOf 64 = .ok (.ifCond .eq 45, 3) := by decide +kernel
theorem dX3_reachOf_67 : decode cX3_reachOf 67 = .ok (.aload 4, 2) := by decide +kernel
theorem dX3_reachOf_69 : decode cX3_reachOf 69 = .ok (.aload_n 0, 1) := by decide +kernel
theorem dX3_reachOf_70 : decode cX3_reachOf 70 = .ok (.getfield 76, 3) := by decide +kernel
theorem dX3_reachOf_73 : decode cX3_reachOf 73 = .ok (.invokevirtual 386, 3) := by decide +kernel
theorem dX3_reachOf_76 : decode cX3_reachOf 76 = .ok (.ifCond .ne 33, 3) := by decide +kernel
theorem dX3_reachOf_79 : decode cX3_reachOf 79 = .ok (.aload 4, 2) := by decide +kernel
theorem dX3_reachOf_81 : decode cX3_reachOf 81 = .ok (.getfield 60, 3) := by decide +kernel
theorem dX3_reachOf_84 : decode cX3_reachOf 84 = .ok (.aload_n 1, 1) := by decide +kernel
theorem dX3_reachOf_85 : decode cX3_reachOf 85 = .ok (.getfield 389, 3) := by decide +kernel
theorem dX3_reachOf_88 : decode cX3_reachOf 88 = .ok (.invokestatic 49, 3) := by decide +kernel
theorem dX3_reachOf_91 : decode cX3_reachOf 91 = .ok (.ifCond .eq 18, 3) := by decide +kernel
theorem dX3_reachOf_94 : decode cX3_reachOf 94 = .ok (.aload 4, 2) := by decide +kernel
theorem dX3_reachOf_96 : decode cX3_reachOf 96 = .ok (.getfield 60, 3) := by decide +kernel
theorem dX3_reachOf_99 : decode cX3_reachOf 99 = .ok (.aload_n 2, 1) := by decide +kernel
theorem dX3_reachOf_100 : decode cX3_reachOf 100 = .ok (.getfield 60, 3) := by decide +kernel
theorem dX3_reachOf_103 : decode cX3_reachOf 103 = .ok (.iand, 1) := by decide +kernel
theorem dX3_reachOf_104 : decode cX3_reachOf 104 = .ok (.ifCond .eq 5, 3) := by decide +kernel
theorem dX3_reachOf_107 : decode cX3_reachOf 107 = .ok (.iconst 2, 1) := by decide +kernel
theorem dX3_reachOf_108 : decode cX3_reachOf 108 = .ok (.ireturn, 1) := by decide +kernel
theorem dX3_reachOf_109 : decode cX3_reachOf 109 = .ok (.iinc 3 1, 3) := by decide +kernel
theorem dX3_reachOf_112 : decode cX3_reachOf 112 = .ok (.goto (-81), 3) := by decide +kernel
theorem dX3_reachOf_115 : decode cX3_reachOf 115 = .ok (.iconst 1, 1) := by decide +kernel
theorem dX3_reachOf_116 : decode cX3_reachOf 116 = .ok (.ireturn, 1) := by decide +kernel
theorem dX3_hearWhatComesLate_0 : decode cX3_hearWhatComesLate 0 = .ok (.iconst 0, 1) := by decide +kernel
theorem dX3_hearWhatComesLate_1 : decode cX3_hearWhatComesLate 1 = .ok (.istore_n 1, 1) := by decide +kernel
theorem dX3_hearWhatComesLate_2 : decode cX3_hearWhatComesLate 2 = .ok (.iload_n 1, 1) := by decide +kernel
theorem dX3_hearWhatComesLate_3 : decode cX3_hearWhatComesLate 3 = .ok (.aload_n 0, 1) := by decide +kernel
theorem dX3_hearWhatComesLate_4 : decode cX3_hearWhatComesLate 4 = .ok (.getfield 22, 3) := by decide +kernel
theorem dX3_hearWhatComesLate_7 : decode cX3_hearWhatComesLate 7 = .ok (.invokevirtual 147, 3) := by decide +kernel
theorem dX3_hearWhatComesLate_10 : decode cX3_hearWhatComesLate 10 = .ok (.if_icmp .ge 84, 3) := by decide +kernel
theorem dX3_hearWhatComesLate_13 : decode cX3_hearWhatComesLate 13 = .ok (.aload_n 0, 1) := by decide +kernel
theorem dX3_hearWhatComesLate_14 : decode cX3_hearWhatComesLate 14 = .ok (.getfield 22, 3) := by decide +kernel
theorem dX3_hearWhatComesLate_17 : decode cX3_hearWhatComesLate 17 = .ok (.iload_n 1, 1) := by decide +kernel
theorem dX3_hearWhatComesLate_18 : decode cX3_hearWhatComesLate 18 = .ok (.invokevirtual 197, 3) := by decide +kernel
theorem dX3_hearWhatComesLate_21 : decode cX3_hearWhatComesLate 21 = .ok (.checkcast 106, 3) := by decide +kernel
theorem dX3_hearWhatComesLate_24 : decode cX3_hearWhatComesLate 24 = .ok (.astore_n 2, 1) := by decide +kernel
theorem dX3_hearWhatComesLate_25 : decode cX3_hearWhatComesLate 25 = .ok (.iconst 0, 1) := by decide +kernel
theorem dX3_hearWhatComesLate_26 : decode cX3_hearWhatComesLate 26 = .ok (.istore_n 3, 1) := by decide +kernel
theorem dX3_hearWhatComesLate_27 : decode cX3_hearWhatComesLate 27 = .ok (.iload_n 3, 1) := by decide +kernel
theorem dX3_hearWhatComesLate_28 : decode cX3_hearWhatComesLate 28 = .ok (.iconst 4, 1) := by decide +kernel
theorem dX3_hearWhatComesLate_29 : decode cX3_hearWhatComesLate 29 = .ok (.if_icmp .ge 59, 3) := by decide +kernel
theorem dX3_hearWhatComesLate_32 : decode cX3_hearWhatComesLate 32 = .ok (.aload_n 2, 1) := by decide +kernel
theorem dX3_hearWhatComesLate_33 : decode cX3_hearWhatComesLate 33 = .ok (.getfield 187, 3) := by decide +kernel
theorem dX3_hearWhatComesLate_36 : decode cX3_hearWhatComesLate 36 = .ok (.iload_n 3, 1) := by decide +kernel
theorem dX3_hearWhatComesLate_37 : decode cX3_hearWhatComesLate 37 = .ok (.iaload, 1) := by decide +kernel
theorem dX3_hearWhatComesLate_38 : decode cX3_hearWhatComesLate 38 = .ok (.iconst 2, 1) := by decide +kernel
theorem dX3_hearWhatComesLate_39 : decode cX3_hearWhatComesLate 39 = .ok (.if_icmp .ne 43, 3) := by decide +kernel
theorem dX3_hearWhatComesLate_42 : decode cX3_hearWhatComesLate 42 = .ok (.aload_n 2, 1) := by decide +kernel
theorem dX3_hearWhatComesLate_43 : decode cX3_hearWhatComesLate 43 = .ok (.getfield 383, 3) := by decide +kernel
theorem dX3_hearWhatComesLate_46 : decode cX3_hearWhatComesLate 46 = .ok (.iload_n 3, 1) := by decide +kernel
theorem dX3_hearWhatComesLate_47 : decode cX3_hearWhatComesLate 47 = .ok (.iaload, 1) := by decide +kernel
theorem dX3_hearWhatComesLate_48 : decode cX3_hearWhatComesLate 48 = .ok (.aload_n 0, 1) := by decide +kernel
theorem dX3_hearWhatComesLate_49 : decode cX3_hearWhatComesLate 49 = .ok (.getfield 76, 3) := by decide +kernel
theorem dX3_hearWhatComesLate_52 : decode cX3_hearWhatComesLate 52 = .ok (.if_icmp .ne 30, 3) := by decide +kernel
theorem dX3_hearWhatComesLate_55 : decode cX3_hearWhatComesLate 55 = .ok (.aload_n 2, 1) := by decide +kernel
theorem dX3_hearWhatComesLate_56 : decode cX3_hearWhatComesLate 56 = .ok (.getfield 187, 3) := by decide +kernel
theorem dX3_hearWhatComesLate_59 : decode cX3_hearWhatComesLate 59 = .ok (.iload_n 3, 1) := by decide +kernel
theorem dX3_hearWhatComesLate_60 : decode cX3_hearWhatComesLate 60 = .ok (.aload_n 0, 1) := by decide +kernel
theorem dX3_hearWhatComesLate_61 : decode cX3_hearWhatComesLate 61 = .ok (.getfield 11, 3) := by decide +kernel
theorem dX3_hearWhatComesLate_64 : decode cX3_hearWhatComesLate 64 = .ok (.iload_n 3, 1) := by decide +kernel
theorem dX3_hearWhatComesLate_65 : decode cX3_hearWhatComesLate 65 = .ok (.aaload, 1) := by decide +kernel
theorem dX3_hearWhatComesLate_66 : decode cX3_hearWhatComesLate 66 = .ok (.aload_n 0, 1) := by decide +kernel
theorem dX3_hearWhatComesLate_67 : decode cX3_hearWhatComesLate 67 = .ok (.getfield 76, 3) := by decide +kernel
theorem dX3_hearWhatComesLate_70 : decode cX3_hearWhatComesLate 70 = .ok (.invokevirtual 386, 3) := by decide +kernel
theorem dX3_hearWhatComesLate_73 : decode cX3_hearWhatComesLate 73 = .ok (.ifCond .eq 7, 3) := by decide +kernel
theorem dX3_hearWhatComesLate_76 : decode cX3_hearWhatComesLate 76 = .ok (.iconst 1, 1) := by decide +kernel
theorem dX3_hearWhatComesLate_77 : decode cX3_hearWhatComesLate 77 = .ok (.goto 4, 3) := by decide +kernel
theorem dX3_hearWhatComesLate_80 : decode cX3_hearWhatComesLate 80 = .ok (.iconst 3, 1) := by decide +kernel
theorem dX3_hearWhatComesLate_81 : decode cX3_hearWhatComesLate 81 = .ok (.iastore, 1) := by decide +kernel
theorem dX3_hearWhatComesLate_82 : decode cX3_hearWhatComesLate 82 = .ok (.iinc 3 1, 3) := by decide +kernel
theorem dX3_hearWhatComesLate_85 : decode cX3_hearWhatComesLate 85 = .ok (.goto (-58), 3) := by decide +kernel
theorem dX3_hearWhatComesLate_88 : decode cX3_hearWhatComesLate 88 = .ok (.iinc 1 1, 3) := by decide +kernel
theorem dX3_hearWhatComesLate_91 : decode cX3_hearWhatComesLate 91 = .ok (.goto (-89), 3) := by decide +kernel
theorem dX3_hearWhatComesLate_94 : decode cX3_hearWhatComesLate 94 = .ok (.return_, 1) := by decide +kernel
theorem dX3_endHints_0 : decode cX3_endHints 0 = .ok (.iconst 0, 1) := by decide +kernel
theorem dX3_endHints_1 : decode cX3_endHints 1 = .ok (.istore_n 1, 1) := by decide +kernel
theorem dX3_endHints_2 : decode cX3_endHints 2 = .ok (.iload_n 1, 1) := by decide +kernel
theorem dX3_endHints_3 : decode cX3_endHints 3 = .ok (.iconst 4, 1) := by decide +kernel
theorem dX3_endHints_4 : decode cX3_endHints 4 = .ok (.if_icmp .ge 86, 3) := by decide +kernel
theorem dX3_endHints_7 : decode cX3_endHints 7 = .ok (.aload_n 0, 1) := by decide +kernel
theorem dX3_endHints_8 : decode cX3_endHints 8 = .ok (.getfield 11, 3) := by decide +kernel
theorem dX3_endHints_11 : decode cX3_endHints 11 = .ok (.iload_n 1, 1) := by decide +kernel
theorem dX3_endHints_12 : decode cX3_endHints 12 = .ok (.aaload, 1) := by decide +kernel
theorem dX3_endHints_13 : decode cX3_endHints 13 = .ok (.astore_n 2, 1) := by decide +kernel
theorem dX3_endHints_14 : decode cX3_endHints 14 = .ok (.iconst 0, 1) := by decide +kernel
theorem dX3_endHints_15 : decode cX3_endHints 15 = .ok (.istore_n 3, 1) := by decide +kernel
theorem dX3_endHints_16 : decode cX3_endHints 16 = .ok (.iload_n 3, 1) := by decide +kernel
theorem dX3_endHints_17 : decode cX3_endHints 17 = .ok (.bipush 10, 2) := by decide +kernel
theorem dX3_endHints_19 : decode cX3_endHints 19 = .ok (.if_icmp .ge 65, 3) := by decide +kernel
theorem dX3_endHints_22 : decode cX3_endHints 22 = .ok (.aload_n 2, 1) := by decide +kernel
theorem dX3_endHints_23 : decode cX3_endHints 23 = .ok (.getfield 209, 3) := by decide +kernel
theorem dX3_endHints_26 : decode cX3_endHints 26 = .ok (.iload_n 3, 1) := by decide +kernel
theorem dX3_endHints_27 : decode cX3_endHints 27 = .ok (.aaload, 1) := by decide +kernel
theorem dX3_endHints_28 : decode cX3_endHints 28 = .ok (.astore 4, 2) := by decide +kernel
theorem dX3_endHints_30 : decode cX3_endHints 30 = .ok (.aload 4, 2) := by decide +kernel
theorem dX3_endHints_32 : decode cX3_endHints 32 = .ok (.ifnull 46, 3) := by decide +kernel
theorem dX3_endHints_35 : decode cX3_endHints 35 = .ok (.aload_n 0, 1) := by decide +kernel
theorem dX3_endHints_36 : decode cX3_endHints 36 = .ok (.getfield 76, 3) := by decide +kernel
theorem dX3_endHints_39 : decode cX3_endHints 39 = .ok (.aload 4, 2) := by decide +kernel
theorem dX3_endHints_41 : decode cX3_endHints 41 = .ok (.getfield 179, 3) := by decide +kernel
theorem dX3_endHints_44 : decode cX3_endHints 44 = .ok (.isub, 1) := by decide +kernel
theorem dX3_endHints_45 : decode cX3_endHints 45 = .ok (.iconst 5, 1) := by decide +kernel
theorem dX3_endHints_46 : decode cX3_endHints 46 = .ok (.if_icmp .lt 32, 3) := by decide +kernel
theorem dX3_endHints_49 : decode cX3_endHints 49 = .ok (.aload_n 2, 1) := by decide +kernel
theorem dX3_endHints_50 : decode cX3_endHints 50 = .ok (.getfield 209, 3) := by decide +kernel
theorem dX3_endHints_53 : decode cX3_endHints 53 = .ok (.iload_n 3, 1) := by decide +kernel
theorem dX3_endHints_54 : decode cX3_endHints 54 = .ok (.aconst_null, 1) := by decide +kernel
theorem dX3_endHints_55 : decode cX3_endHints 55 = .ok (.aastore, 1) := by decide +kernel
theorem dX3_endHints_56 : decode cX3_endHints 56 = .ok (.aload 4, 2) := by decide +kernel
theorem dX3_endHints_58 : decode cX3_endHints 58 = .ok (.iconst 4, 1) := by decide +kernel
theorem dX3_endHints_59 : decode cX3_endHints 59 = .ok (.invokevirtual 297, 3) := by decide +kernel
theorem dX3_endHints_62 : decode cX3_endHints 62 = .ok (.ifCond .eq 16, 3) := by decide +kernel
theorem dX3_endHints_65 : decode cX3_endHints 65 = .ok (.aload_n 0, 1) := by decide +kernel
theorem dX3_endHints_66 : decode cX3_endHints 66 = .ok (.aload_n 2, 1) := by decide +kernel
theorem dX3_endHints_67 : decode cX3_endHints 67 = .ok (.iload_n 3, 1) := by decide +kernel
theorem dX3_endHints_68 : decode cX3_endHints 68 = .ok (.aload 4, 2) := by decide +kernel
theorem dX3_endHints_70 : decode cX3_endHints 70 = .ok (.getfield 167, 3) := by decide +kernel
theorem dX3_endHints_73 : decode cX3_endHints 73 = .ok (.aload 4, 2) := by decide +kernel
theorem dX3_endHints_75 : decode cX3_endHints 75 = .ok (.invokevirtual 340, 3) := by decide +kernel
theorem dX3_endHints_78 : decode cX3_endHints 78 = .ok (.iinc 3 1, 3) := by decide +kernel
theorem dX3_endHints_81 : decode cX3_endHints 81 = .ok (.goto (-65), 3) := by decide +kernel
theorem dX3_endHints_84 : decode cX3_endHints 84 = .ok (.iinc 1 1, 3) := by decide +kernel
theorem dX3_endHints_87 : decode cX3_endHints 87 = .ok (.goto (-85), 3) := by decide +kernel
theorem dX3_endHints_90 : decode cX3_endHints 90 = .ok (.return_, 1) := by decide +kernel
theorem dX3_closeOverdueOffers_0 : decode cX3_closeOverdueOffers 0 = .ok (.iconst 0, 1) := by decide +kernel
theorem dX3_closeOverdueOffers_1 : decode cX3_closeOverdueOffers 1 = .ok (.istore_n 1, 1) := by decide +kernel
theorem dX3_closeOverdueOffers_2 : decode cX3_closeOverdueOffers 2 = .ok (.iload_n 1, 1) := by decide +kernel
theorem dX3_closeOverdueOffers_3 : decode cX3_closeOverdueOffers 3 = .ok (.aload_n 0, 1) := by decide +kernel
theorem dX3_closeOverdueOffers_4 : decode cX3_closeOverdueOffers 4 = .ok (.getfield 22, 3) := by decide +kernel
theorem dX3_closeOverdueOffers_7 : decode cX3_closeOverdueOffers 7 = .ok (.invokevirtual 147, 3) := by decide +kernel
theorem dX3_closeOverdueOffers_10 : decode cX3_closeOverdueOffers 10 = .ok (.if_icmp .ge 49, 3) := by decide +kernel
theorem dX3_closeOverdueOffers_13 : decode cX3_closeOverdueOffers 13 = .ok (.aload_n 0, 1) := by decide +kernel
theorem dX3_closeOverdueOffers_14 : decode cX3_closeOverdueOffers 14 = .ok (.getfield 22, 3) := by decide +kernel
theorem dX3_closeOverdueOffers_17 : decode cX3_closeOverdueOffers 17 = .ok (.iload_n 1, 1) := by decide +kernel
theorem dX3_closeOverdueOffers_18 : decode cX3_closeOverdueOffers 18 = .ok (.invokevirtual 197, 3) := by decide +kernel
theorem dX3_closeOverdueOffers_21 : decode cX3_closeOverdueOffers 21 = .ok (.checkcast 106, 3) := by decide +kernel
theorem dX3_closeOverdueOffers_24 : decode cX3_closeOverdueOffers 24 = .ok (.astore_n 2, 1) := by decide +kernel
theorem dX3_closeOverdueOffers_25 : decode cX3_closeOverdueOffers 25 = .ok (.aload_n 2, 1) := by decide +kernel
theorem dX3_closeOverdueOffers_26 : decode cX3_closeOverdueOffers 26 = .ok (.getfield 182, 3) := by decide +kernel
theorem dX3_closeOverdueOffers_29 : decode cX3_closeOverdueOffers 29 = .ok (.ifCond .eq 24, 3) := by decide +kernel
theorem dX3_closeOverdueOffers_32 : decode cX3_closeOverdueOffers 32 = .ok (.aload_n 0, 1) := by decide +kernel
theorem dX3_closeOverdueOffers_33 : decode cX3_closeOverdueOffers 33 = .ok (.getfield 76, 3) := by decide +kernel
theorem dX3_closeOverdueOffers_36 : decode cX3_closeOverdueOffers 36 = .ok (.aload_n 2, 1) := by decide +kernel
theorem dX3_closeOverdueOffers_37 : decode cX3_closeOverdueOffers 37 = .ok (.getfield 179, 3) := by decide +kernel
theorem dX3_closeOverdueOffers_40 : decode cX3_closeOverdueOffers 40 = .ok (.isub, 1) := by decide +kernel
theorem dX3_closeOverdueOffers_41 : decode cX3_closeOverdueOffers 41 = .ok (.aload_n 2, 1) := by decide +kernel
theorem dX3_closeOverdueOffers_42 : decode cX3_closeOverdueOffers 42 = .ok (.getfield 173, 3) := by decide +kernel
theorem dX3_closeOverdueOffers_45 : decode cX3_closeOverdueOffers 45 = .ok (.if_icmp .le 8, 3) := by decide +kernel
theorem dX3_closeOverdueOffers_48 : decode cX3_closeOverdueOffers 48 = .ok (.aload_n 2, 1) := by decide +kernel
theorem dX3_closeOverdueOffers_49 : decode cX3_closeOverdueOffers 49 = .ok (.iconst 0, 1) := by decide +kernel
theorem dX3_closeOverdueOffers_50 : decode cX3_closeOverdueOffers 50 = .ok (.putfield 182, 3) := by decide +kernel
theorem dX3_closeOverdueOffers_53 : decode cX3_closeOverdueOffers 53 = .ok (.iinc 1 1, 3) := by decide +kernel
theorem dX3_closeOverdueOffers_56 : decode cX3_closeOverdueOffers 56 = .ok (.goto (-54), 3) := by decide +kernel
theorem dX3_closeOverdueOffers_59 : decode cX3_closeOverdueOffers 59 = .ok (.return_, 1) := by decide +kernel
theorem dX3_countSilence_0 : decode cX3_countSilence 0 = .ok (.iconst 0, 1) := by decide +kernel
theorem dX3_countSilence_1 : decode cX3_countSilence 1 = .ok (.istore_n 1, 1) := by decide +kernel
theorem dX3_countSilence_2 : decode cX3_countSilence 2 = .ok (.iload_n 1, 1) := by decide +kernel
theorem dX3_countSilence_3 : decode cX3_countSilence 3 = .ok (.aload_n 0, 1) := by decide +kernel
theorem dX3_countSilence_4 : decode cX3_countSilence 4 = .ok (.getfield 22, 3) := by decide +kernel
theorem dX3_countSilence_7 : decode cX3_countSilence 7 = .ok (.invokevirtual 147, 3) := by decide +kernel
theorem dX3_countSilence_10 : decode cX3_countSilence 10 = .ok (.if_icmp .ge 74, 3) := by decide +kernel
theorem dX3_countSilence_13 : decode cX3_countSilence 13 = .ok (.aload_n 0, 1) := by decide +kernel
theorem dX3_countSilence_14 : decode cX3_countSilence 14 = .ok (.getfield 22, 3) := by decide +kernel
theorem dX3_countSilence_17 : decode cX3_countSilence 17 = .ok (.iload_n 1, 1) := by decide +kernel
theorem dX3_countSilence_18 : decode cX3_countSilence 18 = .ok (.invokevirtual 197, 3) := by decide +kernel
theorem dX3_countSilence_21 : decode cX3_countSilence 21 = .ok (.checkcast 106, 3) := by decide +kernel
theorem dX3_countSilence_24 : decode cX3_countSilence 24 = .ok (.astore_n 2, 1) := by decide +kernel
theorem dX3_countSilence_25 : decode cX3_countSilence 25 = .ok (.aload_n 2, 1) := by decide +kernel
theorem dX3_countSilence_26 : decode cX3_countSilence 26 = .ok (.invokevirtual 300, 3) := by decide +kernel
theorem dX3_countSilence_29 : decode cX3_countSilence 29 = .ok (.ifCond .eq 49, 3) := by decide +kernel
theorem dX3_countSilence_32 : decode cX3_countSilence 32 = .ok (.iconst 0, 1) := by decide +kernel
theorem dX3_countSilence_33 : decode cX3_countSilence 33 = .ok (.istore_n 3, 1) := by decide +kernel
theorem dX3_countSilence_34 : decode cX3_countSilence 34 = .ok (.iload_n 3, 1) := by decide +kernel
theorem dX3_countSilence_35 : decode cX3_countSilence 35 = .ok (.iconst 4, 1) := by decide +kernel
theorem dX3_countSilence_36 : decode cX3_countSilence 36 = .ok (.if_icmp .ge 42, 3) := by decide +kernel
theorem dX3_countSilence_39 : decode cX3_countSilence 39 = .ok (.aload_n 0, 1) := by decide +kernel
theorem dX3_countSilence_40 : decode cX3_countSilence 40 = .ok (.aload_n 2, 1) := by decide +kernel
theorem dX3_countSilence_41 : decode cX3_countSilence 41 = .ok (.aload_n 0, 1) := by decide +kernel
theorem dX3_countSilence_42 : decode cX3_countSilence 42 = .ok (.getfield 11, 3) := by decide +kernel
theorem dX3_countSilence_45 : decode cX3_countSilence 45 = .ok (.iload_n 3, 1) := by decide +kernel
theorem dX3_countSilence_46 : decode cX3_countSilence 46 = .ok (.aaload, 1) := by decide +kernel
theorem dX3_countSilence_47 : decode cX3_countSilence 47 = .ok (.invokevirtual 392, 3) := by decide +kernel
theorem dX3_countSilence_50 : decode cX3_countSilence 50 = .ok (.ifCond .eq 22, 3) := by decide +kernel
theorem dX3_countSilence_53 : decode cX3_countSilence 53 = .ok (.aload_n 0, 1) := by decide +kernel
theorem dX3_countSilence_54 : decode cX3_countSilence 54 = .ok (.aload_n 0, 1) := by decide +kernel
theorem dX3_countSilence_55 : decode cX3_countSilence 55 = .ok (.getfield 11, 3) := by decide +kernel
theorem dX3_countSilence_58 : decode cX3_countSilence 58 = .ok (.iload_n 3, 1) := by decide +kernel
theorem dX3_countSilence_59 : decode cX3_countSilence 59 = .ok (.aaload, 1) := by decide +kernel
theorem dX3_countSilence_60 : decode cX3_countSilence 60 = .ok (.aload_n 2, 1) := by decide +kernel
theorem dX3_countSilence_61 : decode cX3_countSilence 61 = .ok (.getfield 164, 3) := by decide +kernel
theorem dX3_countSilence_64 : decode cX3_countSilence 64 = .ok (.aload_n 2, 1) := by decide +kernel
theorem dX3_countSilence_65 : decode cX3_countSilence 65 = .ok (.getfield 167, 3) := by decide +kernel
theorem dX3_countSilence_68 : decode cX3_countSilence 68 = .ok (.aload_n 2, 1) := by decide +kernel
theorem dX3_countSilence_69 : decode cX3_countSilence 69 = .ok (.invokevirtual 340, 3) := by decide +kernel
theorem dX3_countSilence_72 : decode cX3_countSilence 72 = .ok (.iinc 3 1, 3) := by decide +kernel
theorem dX3_countSilence_75 : decode cX3_countSilence 75 = .ok (.goto (-41), 3) := by decide +kernel
theorem dX3_countSilence_78 : decode cX3_countSilence 78 = .ok (.iinc 1 1, 3) := by decide +kernel
theorem dX3_countSilence_81 : decode cX3_countSilence 81 = .ok (.goto (-79), 3) := by decide +kernel
theorem dX3_countSilence_84 : decode cX3_countSilence 84 = .ok (.return_, 1) := by decide +kernel
theorem dX3_isAcceptedBySilence_0 : decode cX3_isAcceptedBySilence 0 = .ok (.aload_n 1, 1) := by decide +kernel
theorem dX3_isAcceptedBySilence_1 : decode cX3_isAcceptedBySilence 1 = .ok (.getfield 187, 3) := by decide +kernel
theorem dX3_isAcceptedBySilence_4 : decode cX3_isAcceptedBySilence 4 = .ok (.aload_n 2, 1) := by decide +kernel
theorem dX3_isAcceptedBySilence_5 : decode cX3_isAcceptedBySilence 5 = .ok (.getfield 160, 3) := by decide +kernel
theorem dX3_isAcceptedBySilence_8 : decode cX3_isAcceptedBySilence 8 = .ok (.iaload, 1) := by decide +kernel
theorem dX3_isAcceptedBySilence_9 : decode cX3_isAcceptedBySilence 9 = .ok (.istore_n 3, 1) := by decide +kernel
theorem dX3_isAcceptedBySilence_10 : decode cX3_isAcceptedBySilence 10 = .ok (.iload_n 3, 1) := by decide +kernel
theorem dX3_isAcceptedBySilence_11 : decode cX3_isAcceptedBySilence 11 = .ok (.iconst 3, 1) := by decide +kernel
theorem dX3_isAcceptedBySilence_12 : decode cX3_isAcceptedBySilence 12 = .ok (.if_icmp .eq 8, 3) := by decide +kernel
theorem dX3_isAcceptedBySilence_15 : decode cX3_isAcceptedBySilence 15 = .ok (.iload_n 3, 1) := by decide +kernel
theorem dX3_isAcceptedBySilence_16 : decode cX3_isAcceptedBySilence 16 = .ok (.iconst 4, 1) := by decide +kernel
theorem dX3_isAcceptedBySilence_17 : decode cX3_isAcceptedBySilence 17 = .ok (.if_icmp .ne 57, 3) := by decide +kernel
theorem dX3_isAcceptedBySilence_20 : decode cX3_isAcceptedBySilence 20 = .ok (.aload_n 0, 1) := by decide +kernel
theorem dX3_isAcceptedBySilence_21 : decode cX3_isAcceptedBySilence 21 = .ok (.getfield 76, 3) := by decide +kernel
theorem dX3_isAcceptedBySilence_24 : decode cX3_isAcceptedBySilence 24 = .ok (.aload_n 1, 1) := by decide +kernel
theorem dX3_isAcceptedBySilence_25 : decode cX3_isAcceptedBySilence 25 = .ok (.getfield 383, 3) := by decide +kernel
theorem dX3_isAcceptedBySilence_28 : decode cX3_isAcceptedBySilence 28 = .ok (.aload_n 2, 1) := by decide +kernel
theorem dX3_isAcceptedBySilence_29 : decode cX3_isAcceptedBySilence 29 = .ok (.getfield 160, 3) := by decide +kernel
theorem dX3_isAcceptedBySilence_32 : decode cX3_isAcceptedBySilence 32 = .ok (.iaload, 1) := by decide +kernel
theorem dX3_isAcceptedBySilence_33 : decode cX3_isAcceptedBySilence 33 = .ok (.isub, 1) := by decide +kernel
theorem dX3_isAcceptedBySilence_34 : decode cX3_isAcceptedBySilence 34 = .ok (.bipush 6, 2) := by decide +kernel
theorem dX3_isAcceptedBySilence_36 : decode cX3_isAcceptedBySilence 36 = .ok (.if_icmp .ne 38, 3) := by decide +kernel
theorem dX3_isAcceptedBySilence_39 : decode cX3_isAcceptedBySilence 39 = .ok (.aload_n 2, 1) := by decide +kernel
theorem dX3_isAcceptedBySilence_40 : decode cX3_isAcceptedBySilence 40 = .ok (.getfield 190, 3) := by decide +kernel
theorem dX3_isAcceptedBySilence_43 : decode cX3_isAcceptedBySilence 43 = .ok (.aload_n 1, 1) := by decide +kernel
theorem dX3_isAcceptedBySilence_44 : decode cX3_isAcceptedBySilence 44 = .ok (.getfield 164, 3) := by decide +kernel
theorem dX3_isAcceptedBySilence_47 : decode cX3_isAcceptedBySilence 47 = .ok (.iaload, 1) := by decide +kernel
theorem dX3_isAcceptedBySilence_48 : decode cX3_isAcceptedBySilence 48 = .ok (.ifCond .ne 26, 3) := by decide +kernel
theorem dX3_isAcceptedBySilence_51 : decode cX3_isAcceptedBySilence 51 = .ok (.aload_n 1, 1) := by decide +kernel
theorem dX3_isAcceptedBySilence_52 : decode cX3_isAcceptedBySilence 52 = .ok (.getfield 105, 3) := by decide +kernel
theorem dX3_isAcceptedBySilence_55 : decode cX3_isAcceptedBySilence 55 = .ok (.getfield 190, 3) := by decide +kernel
theorem dX3_isAcceptedBySilence_58 : decode cX3_isAcceptedBySilence 58 = .ok (.aload_n 1, 1) := by decide +kernel
theorem dX3_isAcceptedBySilence_59 : decode cX3_isAcceptedBySilence 59 = .ok (.getfield 164, 3) := by decide +kernel
theorem dX3_isAcceptedBySilence_62 : decode cX3_isAcceptedBySilence 62 = .ok (.iaload, 1) := by decide +kernel
theorem dX3_isAcceptedBySilence_63 : decode cX3_isAcceptedBySilence 63 = .ok (.aload_n 1, 1) := by decide +kernel
theorem dX3_isAcceptedBySilence_64 : decode cX3_isAcceptedBySilence 64 = .ok (.getfield 167, 3) := by decide +kernel
theorem dX3_isAcceptedBySilence_67 : decode cX3_isAcceptedBySilence 67 = .ok (.if_icmp .ne 7, 3) := by decide +kernel
theorem dX3_isAcceptedBySilence_70 : decode cX3_isAcceptedBySilence 70 = .ok (.iconst 1, 1) := by decide +kernel
theorem dX3_isAcceptedBySilence_71 : decode cX3_isAcceptedBySilence 71 = .ok (.goto 4, 3) := by decide +kernel
theorem dX3_isAcceptedBySilence_74 : decode cX3_isAcceptedBySilence 74 = .ok (.iconst 0, 1) := by decide +kernel
theorem dX3_isAcceptedBySilence_75 : decode cX3_isAcceptedBySilence 75 = .ok (.ireturn, 1) := by decide +kernel
theorem dX4_init_0 : decode cX4_init 0 = .ok (.aload_n 0, 1) := by decide +kernel
theorem dX4_init_1 : decode cX4_init 1 = .ok (.invokespecial 1, 3) := by decide +kernel
theorem dX4_init_4 : decode cX4_init 4 = .ok (.aload_n 0, 1) := by decide +kernel
theorem dX4_init_5 : decode cX4_init 5 = .ok (.iconst 4, 1) := by decide +kernel
theorem dX4_init_6 : decode cX4_init 6 = .ok (.newarray .int, 2) := by decide +kernel
theorem dX4_init_8 : decode cX4_init 8 = .ok (.putfield 7, 3) := by decide +kernel
theorem dX4_init_11 : decode cX4_init 11 = .ok (.aload_n 0, 1) := by decide +kernel
theorem dX4_init_12 : decode cX4_init 12 = .ok (.iconst 4, 1) := by decide +kernel
theorem dX4_init_13 : decode cX4_init 13 = .ok (.newarray .int, 2) := by decide +kernel
theorem dX4_init_15 : decode cX4_init 15 = .ok (.putfield 13, 3) := by decide +kernel
theorem dX4_init_18 : decode cX4_init 18 = .ok (.aload_n 0, 1) := by decide +kernel
theorem dX4_init_19 : decode cX4_init 19 = .ok (.iconst 4, 1) := by decide +kernel
theorem dX4_init_20 : decode cX4_init 20 = .ok (.newarray .int, 2) := by decide +kernel
theorem dX4_init_22 : decode cX4_init 22 = .ok (.putfield 16, 3) := by decide +kernel
theorem dX4_init_25 : decode cX4_init 25 = .ok (.aload_n 0, 1) := by decide +kernel
theorem dX4_init_26 : decode cX4_init 26 = .ok (.iconst 4, 1) := by decide +kernel
theorem dX4_init_27 : decode cX4_init 27 = .ok (.newarray .boolean, 2) := by decide +kernel
theorem dX4_init_29 : decode cX4_init 29 = .ok (.putfield 19, 3) := by decide +kernel
theorem dX4_init_32 : decode cX4_init 32 = .ok (.aload_n 0, 1) := by decide +kernel
theorem dX4_init_33 : decode cX4_init 33 = .ok (.iconst 4, 1) := by decide +kernel
theorem dX4_init_34 : decode cX4_init 34 = .ok (.newarray .int, 2) := by decide +kernel
theorem dX4_init_36 : decode cX4_init 36 = .ok (.putfield 23, 3) := by decide +kernel
theorem dX4_init_39 : decode cX4_init 39 = .ok (.aload_n 0, 1) := by decide +kernel
theorem dX4_init_40 : decode cX4_init 40 = .ok (.bipush 40, 2) := by decide +kernel
theorem dX4_init_42 : decode cX4_init 42 = .ok (.newarray .int, 2) := by decide +kernel
theorem dX4_init_44 : decode cX4_init 44 = .ok (.putfield 26, 3) := by decide +kernel
theorem dX4_init_47 : decode cX4_init 47 = .ok (.aload_n 0, 1) := by decide +kernel
theorem dX4_init_48 : decode cX4_init 48 = .ok (.bipush 40, 2) := by decide +kernel
theorem dX4_init_50 : decode cX4_init 50 = .ok (.newarray .int, 2) := by decide +kernel
theorem dX4_init_52 : decode cX4_init 52 = .ok (.putfield 29, 3) := by decide +kernel
theorem dX4_init_55 : decode cX4_init 55 = .ok (.aload_n 0, 1) := by decide +kernel
theorem dX4_init_56 : decode cX4_init 56 = .ok (.bipush 40, 2) := by decide +kernel
theorem dX4_init_58 : decode cX4_init 58 = .ok (.newarray .int, 2) := by decide +kernel
theorem dX4_init_60 : decode cX4_init 60 = .ok (.putfield 32, 3) := by decide +kernel
theorem dX4_init_63 : decode cX4_init 63 = .ok (.aload_n 0, 1) := by decide +kernel
theorem dX4_init_64 : decode cX4_init 64 = .ok (.bipush 40, 2) := by decide +kernel
theorem dX4_init_66 : decode cX4_init 66 = .ok (.newarray .int, 2) := by decide +kernel
theorem dX4_init_68 : decode cX4_init 68 = .ok (.putfield 35, 3) := by decide +kernel
theorem dX4_init_71 : decode cX4_init 71 = .ok (.aload_n 0, 1) := by decide +kernel
theorem dX4_init_72 : decode cX4_init 72 = .ok (.bipush 40, 2) := by decide +kernel
theorem dX4_init_74 : decode cX4_init 74 = .ok (.newarray .int, 2) := by decide +kernel
theorem dX4_init_76 : decode cX4_init 76 = .ok (.putfield 38, 3) := by decide +kernel
theorem dX4_init_79 : decode cX4_init 79 = .ok (.aload_n 0, 1) := by decide +kernel
theorem dX4_init_80 : decode cX4_init 80 = .ok (.iconst 4, 1) := by decide +kernel
theorem dX4_init_81 : decode cX4_init 81 = .ok (.newarray .int, 2) := by decide +kernel
theorem dX4_init_83 : decode cX4_init 83 = .ok (.putfield 41, 3) := by decide +kernel
theorem dX4_init_86 : decode cX4_init 86 = .ok (.aload_n 0, 1) := by decide +kernel
theorem dX4_init_87 : decode cX4_init 87 = .ok (.bipush 8, 2) := by decide +kernel
theorem dX4_init_89 : decode cX4_init 89 = .ok (.newarray .int, 2) := by decide +kernel
theorem dX4_init_91 : decode cX4_init 91 = .ok (.putfield 44, 3) := by decide +kernel
theorem dX4_init_94 : decode cX4_init 94 = .ok (.aload_n 0, 1) := by decide +kernel
theorem dX4_init_95 : decode cX4_init 95 = .ok (.bipush 100, 2) := by decide +kernel
theorem dX4_init_97 : decode cX4_init 97 = .ok (.newarray .int, 2) := by decide +kernel
theorem dX4_init_99 : decode cX4_init 99 = .ok (.putfield 47, 3) := by decide +kernel
theorem dX4_init_102 : decode cX4_init 102 = .ok (.aload_n 0, 1) := by decide +kernel
theorem dX4_init_103 : decode cX4_init 103 = .ok (.bipush 100, 2) := by decide +kernel
theorem dX4_init_105 : decode cX4_init 105 = .ok (.newarray .int, 2) := by decide +kernel
theorem dX4_init_107 : decode cX4_init 107 = .ok (.putfield 50, 3) := by decide +kernel
theorem dX4_init_110 : decode cX4_init 110 = .ok (.aload_n 0, 1) := by decide +kernel
theorem dX4_init_111 : decode cX4_init 111 = .ok (.bipush 100, 2) := by decide +kernel
theorem dX4_init_113 : decode cX4_init 113 = .ok (.newarray .int, 2) := by decide +kernel
theorem dX4_init_115 : decode cX4_init 115 = .ok (.putfield 53, 3) := by decide +kernel
theorem dX4_init_118 : decode cX4_init 118 = .ok (.aload_n 0, 1) := by decide +kernel
theorem dX4_init_119 : decode cX4_init 119 = .ok (.bipush 100, 2) := by decide +kernel
theorem dX4_init_121 : decode cX4_init 121 = .ok (.newarray .int, 2) := by decide +kernel
theorem dX4_init_123 : decode cX4_init 123 = .ok (.putfield 56, 3) := by decide +kernel
theorem dX4_init_126 : decode cX4_init 126 = .ok (.aload_n 0, 1) := by decide +kernel
theorem dX4_init_127 : decode cX4_init 127 = .ok (.bipush 100, 2) := by decide +kernel
theorem dX4_init_129 : decode cX4_init 129 = .ok (.newarray .int, 2) := by decide +kernel
theorem dX4_init_131 : decode cX4_init 131 = .ok (.putfield 59, 3) := by decide +kernel
theorem dX4_init_134 : decode cX4_init 134 = .ok (.aload_n 0, 1) := by decide +kernel
theorem dX4_init_135 : decode cX4_init 135 = .ok (.bipush 100, 2) := by decide +kernel
theorem dX4_init_137 : decode cX4_init 137 = .ok (.newarray .int, 2) := by decide +kernel
theorem dX4_init_139 : decode cX4_init 139 = .ok (.putfield 62, 3) := by decide +kernel
theorem dX4_init_142 : decode cX4_init 142 = .ok (.aload_n 0, 1) := by decide +kernel
theorem dX4_init_143 : decode cX4_init 143 = .ok (.bipush 100, 2) := by decide +kernel
theorem dX4_init_145 : decode cX4_init 145 = .ok (.newarray .int, 2) := by decide +kernel
theorem dX4_init_147 : decode cX4_init 147 = .ok (.putfield 65, 3) := by decide +kernel
theorem dX4_init_150 : decode cX4_init 150 = .ok (.aload_n 0, 1) := by decide +kernel
theorem dX4_init_151 : decode cX4_init 151 = .ok (.bipush 100, 2) := by decide +kernel
theorem dX4_init_153 : decode cX4_init 153 = .ok (.newarray .int, 2) := by decide +kernel
theorem dX4_init_155 : decode cX4_init 155 = .ok (.putfield 68, 3) := by decide +kernel
theorem dX4_init_158 : decode cX4_init 158 = .ok (.aload_n 0, 1) := by decide +kernel
theorem dX4_init_159 : decode cX4_init 159 = .ok (.bipush 100, 2) := by decide +kernel
theorem dX4_init_161 : decode cX4_init 161 = .ok (.newarray .int, 2) := by decide +kernel
theorem dX4_init_163 : decode cX4_init 163 = .ok (.putfield 71, 3) := by decide +kernel
theorem dX4_init_166 : decode cX4_init 166 = .ok (.aload_n 0, 1) := by decide +kernel
theorem dX4_init_167 : decode cX4_init 167 = .ok (.bipush 100, 2) := by decide +kernel
theorem dX4_init_169 : decode cX4_init 169 = .ok (.newarray .boolean, 2) := by decide +kernel
theorem dX4_init_171 : decode cX4_init 171 = .ok (.putfield 74, 3) := by decide +kernel
theorem dX4_init_174 : decode cX4_init 174 = .ok (.aload_n 0, 1) := by decide +kernel
theorem dX4_init_175 : decode cX4_init 175 = .ok (.sipush 400, 3) := by decide +kernel
theorem dX4_init_178 : decode cX4_init 178 = .ok (.newarray .int, 2) := by decide +kernel
theorem dX4_init_180 : decode cX4_init 180 = .ok (.putfield 77, 3) := by decide +kernel
theorem dX4_init_183 : decode cX4_init 183 = .ok (.aload_n 0, 1) := by decide +kernel
theorem dX4_init_184 : decode cX4_init 184 = .ok (.sipush 400, 3) := by decide +kernel
theorem dX4_init_187 : decode cX4_init 187 = .ok (.newarray .int, 2) := by decide +kernel
theorem dX4_init_189 : decode cX4_init 189 = .ok (.putfield 80, 3) := by decide +kernel
theorem dX4_init_192 : decode cX4_init 192 = .ok (.aload_n 0, 1) := by decide +kernel
theorem dX4_init_193 : decode cX4_init 193 = .ok (.iconst 4, 1) := by decide +kernel
theorem dX4_init_194 : decode cX4_init 194 = .ok (.newarray .int, 2) := by decide +kernel
theorem dX4_init_196 : decode cX4_init 196 = .ok (.putfield 83, 3) := by decide +kernel
theorem dX4_init_199 : decode cX4_init 199 = .ok (.aload_n 0, 1) := by decide +kernel
theorem dX4_init_200 : decode cX4_init 200 = .ok (.bipush 6, 2) := by decide +kernel
theorem dX4_init_202 : decode cX4_init 202 = .ok (.newarray .int, 2) := by decide +kernel
theorem dX4_init_204 : decode cX4_init 204 = .ok (.putfield 86, 3) := by decide +kernel
theorem dX4_init_207 : decode cX4_init 207 = .ok (.aload_n 0, 1) := by decide +kernel
theorem dX4_init_208 : decode cX4_init 208 = .ok (.sipush 160, 3) := by decide +kernel
theorem dX4_init_211 : decode cX4_init 211 = .ok (.newarray .boolean, 2) := by decide +kernel
theorem dX4_init_213 : decode cX4_init 213 = .ok (.putfield 89, 3) := by decide +kernel
theorem dX4_init_216 : decode cX4_init 216 = .ok (.aload_n 0, 1) := by decide +kernel
theorem dX4_init_217 : decode cX4_init 217 = .ok (.sipush 400, 3) := by decide +kernel
theorem dX4_init_220 : decode cX4_init 220 = .ok (.newarray .boolean, 2) := by decide +kernel
theorem dX4_init_222 : decode cX4_init 222 = .ok (.putfield 92, 3) := by decide +kernel
theorem dX4_init_225 : decode cX4_init 225 = .ok (.iconst 0, 1) := by decide +kernel
theorem dX4_init_226 : decode cX4_init 226 = .ok (.istore_n 1, 1) := by decide +kernel
theorem dX4_init_227 : decode cX4_init 227 = .ok (.iload_n 1, 1) := by decide +kernel
theorem dX4_init_228 : decode cX4_init 228 = .ok (.iconst 4, 1) := by decide +kernel
theorem dX4_init_229 : decode cX4_init 229 = .ok (.if_icmp .ge 23, 3) := by decide +kernel
theorem dX4_init_232 : decode cX4_init 232 = .ok (.aload_n 0, 1) := by decide +kernel
theorem dX4_init_233 : decode cX4_init 233 = .ok (.getfield 13, 3) := by decide +kernel
theorem dX4_init_236 : decode cX4_init 236 = .ok (.iload_n 1, 1) := by decide +kernel
theorem dX4_init_237 : decode cX4_init 237 = .ok (.iconst 1, 1) := by decide +kernel
theorem dX4_init_238 : decode cX4_init 238 = .ok (.iastore, 1) := by decide +kernel
theorem dX4_init_239 : decode cX4_init 239 = .ok (.aload_n 0, 1) := by decide +kernel
theorem dX4_init_240 : decode cX4_init 240 = .ok (.getfield 83, 3) := by decide +kernel
theorem dX4_init_243 : decode cX4_init 243 = .ok (.iload_n 1, 1) := by decide +kernel
theorem dX4_init_244 : decode cX4_init 244 = .ok (.iconst (-1), 1) := by decide +kernel
theorem dX4_init_245 : decode cX4_init 245 = .ok (.iastore, 1) := by decide +kernel
theorem dX4_init_246 : decode cX4_init 246 = .ok (.iinc 1 1, 3) := by decide +kernel
theorem dX4_init_249 : decode cX4_init 249 = .ok (.goto (-22), 3) := by decide +kernel
theorem dX4_init_252 : decode cX4_init 252 = .ok (.iconst 0, 1) := by decide +kernel
theorem dX4_init_253 : decode cX4_init 253 = .ok (.istore_n 1, 1) := by decide +kernel
theorem dX4_init_254 : decode cX4_init 254 = .ok (.iload_n 1, 1) := by decide +kernel
theorem dX4_init_255 : decode cX4_init 255 = .ok (.bipush 8, 2) := by decide +kernel
theorem dX4_init_257 : decode cX4_init 257 = .ok (.if_icmp .ge 16, 3) := by decide +kernel
theorem dX4_init_260 : decode cX4_init 260 = .ok (.aload_n 0, 1) := by decide +kernel
theorem dX4_init_261 : decode cX4_init 261 = .ok (.getfield 44, 3) := by decide +kernel
theorem dX4_init_264 : decode cX4_init 264 = .ok (.iload_n 1, 1) := by decide +kernel
theorem dX4_init_265 : decode cX4_init 265 = .ok (.iconst (-1), 1) := by decide +kernel
theorem dX4_init_266 : decode cX4_init 266 = .ok (.iastore, 1) := by decide +kernel
theorem dX4_init_267 : decode cX4_init 267 = .ok (.iinc 1 1, 3) := by decide +kernel
theorem dX4_init_270 : decode cX4_init 270 = .ok (.goto (-16), 3) := by decide +kernel
theorem dX4_init_273 : decode cX4_init 273 = .ok (.iconst 0, 1) := by decide +kernel
theorem dX4_init_274 : decode cX4_init 274 = .ok (.istore_n 1, 1) := by decide +kernel
theorem dX4_init_275 : decode cX4_init 275 = .ok (.iload_n 1, 1) := by decide +kernel
theorem dX4_init_276 : decode cX4_init 276 = .ok (.bipush 40, 2) := by decide +kernel
theorem dX4_init_278 : decode cX4_init 278 = .ok (.if_icmp .ge 16, 3) := by decide +kernel
theorem dX4_init_281 : decode cX4_init 281 = .ok (.aload_n 0, 1) := by decide +kernel
theorem dX4_init_282 : decode cX4_init 282 = .ok (.getfield 32, 3) := by decide +kernel
theorem dX4_init_285 : decode cX4_init 285 = .ok (.iload_n 1, 1) := by decide +kernel
theorem dX4_init_286 : decode cX4_init 286 = .ok (.iconst (-1), 1) := by decide +kernel
theorem dX4_init_287 : decode cX4_init 287 = .ok (.iastore, 1) := by decide +kernel
theorem dX4_init_288 : decode cX4_init 288 = .ok (.iinc 1 1, 3) := by decide +kernel
theorem dX4_init_291 : decode cX4_init 291 = .ok (.goto (-16), 3) := by decide +kernel
theorem dX4_init_294 : decode cX4_init 294 = .ok (.aload_n 0, 1) := by decide +kernel
theorem dX4_init_295 : decode cX4_init 295 = .ok (.iconst (-1), 1) := by decide +kernel
theorem dX4_init_296 : decode cX4_init 296 = .ok (.putfield 95, 3) := by decide +kernel
theorem dX4_init_299 : decode cX4_init 299 = .ok (.return_, 1) := by decide +kernel
theorem dX4_thrown_0 : decode cX4_thrown 0 = .ok (.aload_n 0, 1) := by decide +kernel
theorem dX4_thrown_1 : decode cX4_thrown 1 = .ok (.getfield 99, 3) := by decide +kernel
theorem dX4_thrown_4 : decode cX4_thrown 4 = .ok (.ireturn, 1) := by decide +kernel
theorem dX4_in_0 : decode cX4_in 0 = .ok (.iload_n 0, 1) := by decide +kernel
theorem dX4_in_1 : decode cX4_in 1 = .ok (.iload_n 1, 1) := by decide +kernel
theorem dX4_in_2 : decode cX4_in 2 = .ok (.if_icmp .lt 12, 3) := by decide +kernel
theorem dX4_in_5 : decode cX4_in 5 = .ok (.iload_n 0, 1) := by decide +kernel
theorem dX4_in_6 : decode cX4_in 6 = .ok (.iload_n 2, 1) := by decide +kernel
theorem dX4_in_7 : decode cX4_in 7 = .ok (.if_icmp .gt 7, 3) := by decide +kernel
theorem dX4_in_10 : decode cX4_in 10 = .ok (.iconst 1, 1) := by decide +kernel
theorem dX4_in_11 : decode cX4_in 11 = .ok (.goto 4, 3) := by decide +kernel
theorem dX4_in_14 : decode cX4_in 14 = .ok (.iconst 0, 1) := by decide +kernel
theorem dX4_in_15 : decode cX4_in 15 = .ok (.ireturn, 1) := by decide +kernel
theorem dX4_goes_0 : decode cX4_goes 0 = .ok (.aload_n 0, 1) := by decide +kernel
theorem dX4_goes_1 : decode cX4_goes 1 = .ok (.iload_n 1, 1) := by decide +kernel
theorem dX4_goes_2 : decode cX4_goes 2 = .ok (.ifCond .ne 7, 3) := by decide +kernel
theorem dX4_goes_5 : decode cX4_goes 5 = .ok (.iconst 1, 1) := by decide +kernel
theorem dX4_goes_6 : decode cX4_goes 6 = .ok (.goto 20, 3) := by decide +kernel
theorem dX4_goes_9 : decode cX4_goes 9 = .ok (.iload_n 2, 1) := by decide +kernel
theorem dX4_goes_10 : decode cX4_goes 10 = .ok (.ifCond .ne 7, 3) := by decide +kernel
theorem dX4_goes_13 : decode cX4_goes 13 = .ok (.iconst 2, 1) := by decide +kernel
theorem dX4_goes_14 : decode cX4_goes 14 = .ok (.goto 12, 3) := by decide +kernel
theorem dX4_goes_17 : decode cX4_goes 17 = .ok (.iload_n 3, 1) := by decide +kernel
theorem dX4_goes_18 : decode cX4_goes 18 = .ok (.ifCond .ne 7, 3) := by decide +kernel
theorem dX4_goes_21 : decode cX4_goes 21 = .ok (.iconst 3, 1) := by decide +kernel
theorem dX4_goes_22 : decode cX4_goes 22 = .ok (.goto 4, 3) := by decide +kernel
theorem dX4_goes_25 : decode cX4_goes 25 = .ok (.iconst 0, 1) := by decide +kernel
theorem dX4_goes_26 : decode cX4_goes 26 = .ok (.putfield 99, 3) := by decide +kernel
theorem dX4_goes_29 : decode cX4_goes 29 = .ok (.aload_n 0, 1) := by decide +kernel
theorem dX4_goes_30 : decode cX4_goes 30 = .ok (.getfield 99, 3) := by decide +kernel
theorem dX4_goes_33 : decode cX4_goes 33 = .ok (.ifCond .ne 7, 3) := by decide +kernel
theorem dX4_goes_36 : decode cX4_goes 36 = .ok (.iconst 1, 1) := by decide +kernel
theorem dX4_goes_37 : decode cX4_goes 37 = .ok (.goto 4, 3) := by decide +kernel
theorem dX4_goes_40 : decode cX4_goes 40 = .ok (.iconst 0, 1) := by decide +kernel
theorem dX4_goes_41 : decode cX4_goes 41 = .ok (.ireturn, 1) := by decide +kernel
theorem dX4_isSpeaker_0 : decode cX4_isSpeaker 0 = .ok (.iload_n 0, 1) := by decide +kernel
theorem dX4_isSpeaker_1 : decode cX4_isSpeaker 1 = .ok (.iconst 0, 1) := by decide +kernel
theorem dX4_isSpeaker_2 : decode cX4_isSpeaker 2 = .ok (.iconst 3, 1) := by decide +kernel
theorem dX4_isSpeaker_3 : decode cX4_isSpeaker 3 = .ok (.invokestatic 102, 3) := by decide +kernel
theorem dX4_isSpeaker_6 : decode cX4_isSpeaker 6 = .ok (.ireturn, 1) := by decide +kernel
theorem dX4_isAtom_0 : decode cX4_isAtom 0 = .ok (.iload_n 0, 1) := by decide +kernel
theorem dX4_isAtom_1 : decode cX4_isAtom 1 = .ok (.iconst 0, 1) := by decide +kernel
theorem dX4_isAtom_2 : decode cX4_isAtom 2 = .ok (.bipush 9, 2) := by decide +kernel
theorem dX4_isAtom_4 : decode cX4_isAtom 4 = .ok (.invokestatic 102, 3) := by decide +kernel
theorem dX4_isAtom_7 : decode cX4_isAtom 7 = .ok (.ireturn, 1) := by decide +kernel
theorem dX4_isIn_0 : decode cX4_isIn 0 = .ok (.iload_n 0, 1) := by decide +kernel
theorem dX4_isIn_1 : decode cX4_isIn 1 = .ok (.iload_n 1, 1) := by decide +kernel
theorem dX4_isIn_2 : decode cX4_isIn 2 = .ok (.ishr, 1) := by decide +kernel
theorem dX4_isIn_3 : decode cX4_isIn 3 = .ok (.iconst 1, 1) := by decide +kernel
theorem dX4_isIn_4 : decode cX4_isIn 4 = .ok (.iand, 1) := by decide +kernel
theorem dX4_isIn_5 : decode cX4_isIn 5 = .ok (.iconst 1, 1) := by decide +kernel
theorem dX4_isIn_6 : decode cX4_isIn 6 = .ok (.if_icmp .ne 7, 3) := by decide +kernel
theorem dX4_isIn_9 : decode cX4_isIn 9 = .ok (.iconst 1, 1) := by decide +kernel
theorem dX4_isIn_10 : decode cX4_isIn 10 = .ok (.goto 4, 3) := by decide +kernel
theorem dX4_isIn_13 : decode cX4_isIn 13 = .ok (.iconst 0, 1) := by decide +kernel
theorem dX4_isIn_14 : decode cX4_isIn 14 = .ok (.ireturn, 1) := by decide +kernel
theorem dX4_contrary_0 : decode cX4_contrary 0 = .ok (.iload_n 0, 1) := by decide +kernel
theorem dX4_contrary_1 : decode cX4_contrary 1 = .ok (.iconst 1, 1) := by decide +kernel
theorem dX4_contrary_2 : decode cX4_contrary 2 = .ok (.if_icmp .ne 7, 3) := by decide +kernel
theorem dX4_contrary_5 : decode cX4_contrary 5 = .ok (.iconst 2, 1) := by decide +kernel
theorem dX4_contrary_6 : decode cX4_contrary 6 = .ok (.goto 13, 3) := by decide +kernel
theorem dX4_contrary_9 : decode cX4_contrary 9 = .ok (.iload_n 0, 1) := by decide +kernel
theorem dX4_contrary_10 : decode cX4_contrary 10 = .ok (.iconst 2, 1) := by decide +kernel
theorem dX4_contrary_11 : decode cX4_contrary 11 = .ok (.if_icmp .ne 7, 3) := by decide +kernel
theorem dX4_contrary_14 : decode cX4_contrary 14 = .ok (.iconst 1, 1) := by decide +kernel
theorem dX4_contrary_15 : decode cX4_contrary 15 = .ok (.goto 4, 3) := by decide +kernel
theorem dX4_contrary_18 : decode cX4_contrary 18 = .ok (.iconst (-1), 1) := by decide +kernel
theorem dX4_contrary_19 : decode cX4_contrary 19 = .ok (.ireturn, 1) := by decide +kernel
theorem dX4_power_0 : decode cX4_power 0 = .ok (.aload_n 0, 1) := by decide +kernel
theorem dX4_power_1 : decode cX4_power 1 = .ok (.iload_n 1, 1) := by decide +kernel
theorem dX4_power_2 : decode cX4_power 2 = .ok (.invokestatic 106, 3) := by decide +kernel
theorem dX4_power_5 : decode cX4_power 5 = .ok (.iload_n 2, 1) := by decide +kernel
theorem dX4_power_6 : decode cX4_power 6 = .ok (.iconst 0, 1) := by decide +kernel
theorem dX4_power_7 : decode cX4_power 7 = .ok (.bipush 9, 2) := by decide +kernel
theorem dX4_power_9 : decode cX4_power 9 = .ok (.invokestatic 102, 3) := by decide +kernel
theorem dX4_power_12 : decode cX4_power 12 = .ok (.iconst 1, 1) := by decide +kernel
theorem dX4_power_13 : decode cX4_power 13 = .ok (.invokevirtual 110, 3) := by decide +kernel
theorem dX4_power_16 : decode cX4_power 16 = .ok (.ifCond .ne 5, 3) := by decide +kernel
theorem dX4_power_19 : decode cX4_power 19 = .ok (.iconst 0, 1) := by decide +kernel
theorem dX4_power_20 : decode cX4_power 20 = .ok (.ireturn, 1) := by decide +kernel
theorem dX4_power_21 : decode cX4_power 21 = .ok (.aload_n 0, 1) := by decide +kernel
theorem dX4_power_22 : decode cX4_power 22 = .ok (.getfield 7, 3) := by decide +kernel
theorem dX4_power_25 : decode cX4_power 25 = .ok (.iload_n 1, 1) := by decide +kernel
theorem dX4_power_26 : decode cX4_power 26 = .ok (.iaload, 1) := by decide +kernel
theorem dX4_power_27 : decode cX4_power 27 = .ok (.istore_n 3, 1) := by decide +kernel
theorem dX4_power_28 : decode cX4_power 28 = .ok (.aload_n 0, 1) := by decide +kernel
theorem dX4_power_29 : decode cX4_power 29 = .ok (.getfield 7, 3) := by decide +kernel
theorem dX4_power_32 : decode cX4_power 32 = .ok (.iload_n 1, 1) := by decide +kernel
theorem dX4_power_33 : decode cX4_power 33 = .ok (.iload_n 2, 1) := by decide +kernel
theorem dX4_power_34 : decode cX4_power 34 = .ok (.iastore, 1) := by decide +kernel
theorem dX4_power_35 : decode cX4_power 35 = .ok (.iload_n 3, 1) := by decide +kernel
theorem dX4_power_36 : decode cX4_power 36 = .ok (.ireturn, 1) := by decide +kernel
theorem dX4_knows_0 : decode cX4_knows 0 = .ok (.aload_n 0, 1) := by decide +kernel
theorem dX4_knows_1 : decode cX4_knows 1 = .ok (.iload_n 1, 1) := by decide +kernel
theorem dX4_knows_2 : decode cX4_knows 2 = .ok (.invokestatic 106, 3) := by decide +kernel
theorem dX4_knows_5 : decode cX4_knows 5 = .ok (.iload_n 2, 1) := by decide +kernel
theorem dX4_knows_6 : decode cX4_knows 6 = .ok (.iconst 1, 1) := by decide +kernel
theorem dX4_knows_7 : decode cX4_knows 7 = .ok (.bipush 7, 2) := by decide +kernel
theorem dX4_knows_9 : decode cX4_knows 9 = .ok (.invokestatic 102, 3) := by decide +kernel
theorem dX4_knows_12 : decode cX4_knows 12 = .ok (.ifCond .eq 37, 3) := by decide +kernel
theorem dX4_knows_15 : decode cX4_knows 15 = .ok (.iload_n 3, 1) := by decide +kernel
theorem dX4_knows_16 : decode cX4_knows 16 = .ok (.iconst 0, 1) := by decide +kernel
theorem dX4_knows_17 : decode cX4_knows 17 = .ok (.iconst 2, 1) := by decide +kernel
theorem dX4_knows_18 : decode cX4_knows 18 = .ok (.invokestatic 102, 3) := by decide +kernel
theorem dX4_knows_21 : decode cX4_knows 21 = .ok (.ifCond .eq 28, 3) := by decide +kernel
theorem dX4_knows_24 : decode cX4_knows 24 = .ok (.iload_n 2, 1) := by decide +kernel
theorem dX4_knows_25 : decode cX4_knows 25 = .ok (.iload_n 3, 1) := by decide +kernel
theorem dX4_knows_26 : decode cX4_knows 26 = .ok (.iconst 0, 1) := by decide +kernel
theorem dX4_knows_27 : decode cX4_knows 27 = .ok (.iconst 2, 1) := by decide +kernel
theorem dX4_knows_28 : decode cX4_knows 28 = .ok (.invokestatic 102, 3) := by decide +kernel
theorem dX4_knows_31 : decode cX4_knows 31 = .ok (.ifCond .eq 7, 3) := by decide +kernel
theorem dX4_knows_34 : decode cX4_knows 34 = .ok (.iload_n 3, 1) := by decide +kernel
theorem dX4_knows_35 : decode cX4_knows 35 = .ok (.goto 4, 3) := by decide +kernel
theorem dX4_knows_38 : decode cX4_knows 38 = .ok (.iconst 0, 1) := by decide +kernel
theorem dX4_knows_39 : decode cX4_knows 39 = .ok (.invokestatic 114, 3) := by decide +kernel
theorem dX4_knows_42 : decode cX4_knows 42 = .ok (.ifCond .eq 7, 3) := by decide +kernel
theorem dX4_knows_45 : decode cX4_knows 45 = .ok (.iconst 1, 1) := by decide +kernel
theorem dX4_knows_46 : decode cX4_knows 46 = .ok (.goto 4, 3) := by decide +kernel
theorem dX4_knows_49 : decode cX4_knows 49 = .ok (.iconst 0, 1) := by decide +kernel
theorem dX4_knows_50 : decode cX4_knows 50 = .ok (.iconst 1, 1) := by decide +kernel
theorem dX4_knows_51 : decode cX4_knows 51 = .ok (.invokevirtual 110, 3) := by decide +kernel
theorem dX4_knows_54 : decode cX4_knows 54 = .ok (.ifCond .ne 5, 3) := by decide +kernel
theorem dX4_knows_57 : decode cX4_knows 57 = .ok (.iconst 0, 1) := by decide +kernel
theorem dX4_knows_58 : decode cX4_knows 58 = .ok (.ireturn, 1) := by decide +kernel
theorem dX4_knows_59 : decode cX4_knows 59 = .ok (.aload_n 0, 1) := by decide +kernel
theorem dX4_knows_60 : decode cX4_knows 60 = .ok (.getfield 13, 3) := by decide +kernel
theorem dX4_knows_63 : decode cX4_knows 63 = .ok (.iload_n 1, 1) := by decide +kernel
theorem dX4_knows_64 : decode cX4_knows 64 = .ok (.iaload, 1) := by decide +kernel
theorem dX4_knows_65 : decode cX4_knows 65 = .ok (.istore 5, 2) := by decide +kernel
theorem dX4_knows_67 : decode cX4_knows 67 = .ok (.aload_n 0, 1) := by decide +kernel
theorem dX4_knows_68 : decode cX4_knows 68 = .ok (.getfield 13, 3) := by decide +kernel
theorem dX4_knows_71 : decode cX4_knows 71 = .ok (.iload_n 1, 1) := by decide +kernel
theorem dX4_knows_72 : decode cX4_knows 72 = .ok (.iload_n 2, 1) := by decide +kernel
theorem dX4_knows_73 : decode cX4_knows 73 = .ok (.iastore, 1) := by decide +kernel
theorem dX4_knows_74 : decode cX4_knows 74 = .ok (.aload_n 0, 1) := by decide +kernel
theorem dX4_knows_75 : decode cX4_knows 75 = .ok (.getfield 16, 3) := by decide +kernel
theorem dX4_knows_78 : decode cX4_knows 78 = .ok (.iload_n 1, 1) := by decide +kernel
theorem dX4_knows_79 : decode cX4_knows 79 = .ok (.iload_n 3, 1) := by decide +kernel
theorem dX4_knows_80 : decode cX4_knows 80 = .ok (.iastore, 1) := by decide +kernel
theorem dX4_knows_81 : decode cX4_knows 81 = .ok (.aload_n 0, 1) := by decide +kernel
theorem dX4_knows_82 : decode cX4_knows 82 = .ok (.getfield 19, 3) := by decide +kernel
theorem dX4_knows_85 : decode cX4_knows 85 = .ok (.iload_n 1, 1) := by decide +kernel
theorem dX4_knows_86 : decode cX4_knows 86 = .ok (.iload 4, 2) := by decide +kernel
theorem dX4_knows_88 : decode cX4_knows 88 = .ok (.bastore, 1) := by decide +kernel
theorem dX4_knows_89 : decode cX4_knows 89 = .ok (.iload 5, 2) := by decide +kernel
theorem dX4_knows_91 : decode cX4_knows 91 = .ok (.ireturn, 1) := by decide +kernel
theorem dX4_believe_0 : decode cX4_believe 0 = .ok (.aload_n 0, 1) := by decide +kernel
theorem dX4_believe_1 : decode cX4_believe 1 = .ok (.iload_n 1, 1) := by decide +kernel
theorem dX4_believe_2 : decode cX4_believe 2 = .ok (.invokestatic 106, 3) := by decide +kernel
theorem dX4_believe_5 : decode cX4_believe 5 = .ok (.ifCond .eq 14, 3) := by decide +kernel
theorem dX4_believe_8 : decode cX4_believe 8 = .ok (.iload_n 2, 1) := by decide +kernel
theorem dX4_believe_9 : decode cX4_believe 9 = .ok (.invokestatic 118, 3) := by decide +kernel
theorem dX4_believe_12 : decode cX4_believe 12 = .ok (.ifCond .eq 7, 3) := by decide +kernel
theorem dX4_believe_15 : decode cX4_believe 15 = .ok (.iconst 1, 1) := by decide +kernel
theorem dX4_believe_16 : decode cX4_believe 16 = .ok (.goto 4, 3) := by decide +kernel
theorem dX4_believe_19 : decode cX4_believe 19 = .ok (.iconst 0, 1) := by decide +kernel
theorem dX4_believe_20 : decode cX4_believe 20 = .ok (.iload_n 3, 1) := by decide +kernel
theorem dX4_believe_21 : decode cX4_believe 21 = .ok (.iconst 0, 1) := by decide +kernel
theorem dX4_believe_22 : decode cX4_believe 22 = .ok (.iconst 2, 1) := by decide +kernel
theorem dX4_believe_23 : decode cX4_believe 23 = .ok (.invokestatic 102, 3) := by decide +kernel
theorem dX4_believe_26 : decode cX4_believe 26 = .ok (.iconst 1, 1) := by decide +kernel
theorem dX4_believe_27 : decode cX4_believe 27 = .ok (.invokevirtual 110, 3) := by decide +kernel
theorem dX4_believe_30 : decode cX4_believe 30 = .ok (.ifCond .ne 5, 3) := by decide +kernel
theorem dX4_believe_33 : decode cX4_believe 33 = .ok (.iconst 0, 1) := by decide +kernel
theorem dX4_believe_34 : decode cX4_believe 34 = .ok (.ireturn, 1) := by decide +kernel
theorem dX4_believe_35 : decode cX4_believe 35 = .ok (.aload_n 0, 1) := by decide +kernel
theorem dX4_believe_36 : decode cX4_believe 36 = .ok (.getfield 26, 3) := by decide +kernel
theorem dX4_believe_39 : decode cX4_believe 39 = .ok (.bipush 10, 2) := by decide +kernel
theorem dX4_believe_41 : decode cX4_believe 41 = .ok (.iload_n 1, 1) := by decide +kernel
theorem dX4_believe_42 : decode cX4_believe 42 = .ok (.imul, 1) := by decide +kernel
theorem dX4_believe_43 : decode cX4_believe 43 = .ok (.iload_n 2, 1) := by decide +kernel
theorem dX4_believe_44 : decode cX4_believe 44 = .ok (.iadd, 1) := by decide +kernel
theorem dX4_believe_45 : decode cX4_believe 45 = .ok (.iaload, 1) := by decide +kernel
theorem dX4_believe_46 : decode cX4_believe 46 = .ok (.istore 4, 2) := by decide +kernel
theorem dX4_believe_48 : decode cX4_believe 48 = .ok (.aload_n 0, 1) := by decide +kernel
theorem dX4_believe_49 : decode cX4_believe 49 = .ok (.getfield 26, 3) := by decide +kernel
theorem dX4_believe_52 : decode cX4_believe 52 = .ok (.bipush 10, 2) := by decide +kernel
theorem dX4_believe_54 : decode cX4_believe 54 = .ok (.iload_n 1, 1) := by decide +kernel
theorem dX4_believe_55 : decode cX4_believe 55 = .ok (.imul, 1) := by decide +kernel
theorem dX4_believe_56 : decode cX4_believe 56 = .ok (.iload_n 2, 1) := by decide +kernel
theorem dX4_believe_57 : decode cX4_believe 57 = .ok (.iadd, 1) := by decide +kernel
theorem dX4_believe_58 : decode cX4_believe 58 = .ok (.iload_n 3, 1) := by decide +kernel
theorem dX4_believe_59 : decode cX4_believe 59 = .ok (.iastore, 1) := by decide +kernel
theorem dX4_believe_60 : decode cX4_believe 60 = .ok (.iload 4, 2) := by decide +kernel
theorem dX4_believe_62 : decode cX4_believe 62 = .ok (.ireturn, 1) := by decide +kernel
theorem dX4_deafen_0 : decode cX4_deafen 0 = .ok (.aload_n 0, 1) := by decide +kernel
theorem dX4_deafen_1 : decode cX4_deafen 1 = .ok (.iload_n 1, 1) := by decide +kernel
theorem dX4_deafen_2 : decode cX4_deafen 2 = .ok (.invokestatic 106, 3) := by decide +kernel
theorem dX4_deafen_5 : decode cX4_deafen 5 = .ok (.iload_n 2, 1) := by decide +kernel
theorem dX4_deafen_6 : decode cX4_deafen 6 = .ok (.iconst 0, 1) := by decide +kernel
theorem dX4_deafen_7 : decode cX4_deafen 7 = .ok (.bipush 20, 2) := by decide +kernel
theorem dX4_deafen_9 : decode cX4_deafen 9 = .ok (.invokestatic 102, 3) := by decide +kernel
theorem dX4_deafen_12 : decode cX4_deafen 12 = .ok (.iconst 1, 1) := by decide +kernel
theorem dX4_deafen_13 : decode cX4_deafen 13 = .ok (.invokevirtual 110, 3) := by decide +kernel
theorem dX4_deafen_16 : decode cX4_deafen 16 = .ok (.ifCond .ne 5, 3) := by decide +kernel
theorem dX4_deafen_19 : decode cX4_deafen 19 = .ok (.iconst 0, 1) := by decide +kernel
theorem dX4_deafen_20 : decode cX4_deafen 20 = .ok (.ireturn, 1) := by decide +kernel
theorem dX4_deafen_21 : decode cX4_deafen 21 = .ok (.aload_n 0, 1) := by decide +kernel
theorem dX4_deafen_22 : decode cX4_deafen 22 = .ok (.getfield 23, 3) := by decide +kernel
theorem dX4_deafen_25 : decode cX4_deafen 25 = .ok (.iload_n 1, 1) := by decide +kernel
theorem dX4_deafen_26 : decode cX4_deafen 26 = .ok (.aload_n 0, 1) := by decide +kernel
theorem dX4_deafen_27 : decode cX4_deafen 27 = .ok (.getfield 121, 3) := by decide +kernel
theorem dX4_deafen_30 : decode cX4_deafen 30 = .ok (.iload_n 2, 1) := by decide +kernel
theorem dX4_deafen_31 : decode cX4_deafen 31 = .ok (.iadd, 1) := by decide +kernel
theorem dX4_deafen_32 : decode cX4_deafen 32 = .ok (.iastore, 1) := by decide +kernel
theorem dX4_deafen_33 : decode cX4_deafen 33 = .ok (.aload_n 0, 1) := by decide +kernel
theorem dX4_deafen_34 : decode cX4_deafen 34 = .ok (.getfield 23, 3) := by decide +kernel
theorem dX4_deafen_37 : decode cX4_deafen 37 = .ok (.iload_n 1, 1) := by decide +kernel
theorem dX4_deafen_38 : decode cX4_deafen 38 = .ok (.iaload, 1) := by decide +kernel
theorem dX4_deafen_39 : decode cX4_deafen 39 = .ok (.ireturn, 1) := by decide +kernel
theorem dX4_give_0 : decode cX4_give 0 = .ok (.aload_n 0, 1) := by decide +kernel
theorem dX4_give_1 : decode cX4_give 1 = .ok (.iload_n 1, 1) := by decide +kernel
theorem dX4_give_2 : decode cX4_give 2 = .ok (.iconst 0, 1) := by decide +kernel
theorem dX4_give_3 : decode cX4_give 3 = .ok (.bipush 7, 2) := by decide +kernel
theorem dX4_give_5 : decode cX4_give 5 = .ok (.invokestatic 102, 3) := by decide +kernel
theorem dX4_give_8 : decode cX4_give 8 = .ok (.ifCond .eq 16, 3) := by decide +kernel
theorem dX4_give_11 : decode cX4_give 11 = .ok (.iload_n 2, 1) := by decide +kernel
theorem dX4_give_12 : decode cX4_give 12 = .ok (.iconst (-1), 1) := by decide +kernel
theorem dX4_give_13 : decode cX4_give 13 = .ok (.iconst 3, 1) := by decide +kernel
theorem dX4_give_14 : decode cX4_give 14 = .ok (.invokestatic 102, 3) := by decide +kernel
theorem dX4_give_17 : decode cX4_give 17 = .ok (.ifCond .eq 7, 3) := by decide +kernel
theorem dX4_give_20 : decode cX4_give 20 = .ok (.iconst 1, 1) := by decide +kernel
theorem dX4_give_21 : decode cX4_give 21 = .ok (.goto 4, 3) := by decide +kernel
theorem dX4_give_24 : decode cX4_give 24 = .ok (.iconst 0, 1) := by decide +kernel
theorem dX4_give_25 : decode cX4_give 25 = .ok (.iconst 1, 1) := by decide +kernel
theorem dX4_give_26 : decode cX4_give 26 = .ok (.iconst 1, 1) := by decide +kernel
theorem dX4_give_27 : decode cX4_give 27 = .ok (.invokevirtual 110, 3) := by decide +kernel
theorem dX4_give_30 : decode cX4_give 30 = .ok (.ifCond .ne 5, 3) := by decide +kernel
theorem dX4_give_33 : decode cX4_give 33 = .ok (.iconst 0, 1) := by decide +kernel
theorem dX4_give_34 : decode cX4_give 34 = .ok (.ireturn, 1) := by decide +kernel
theorem dX4_give_35 : decode cX4_give 35 = .ok (.aload_n 0, 1) := by decide +kernel
theorem dX4_give_36 : decode cX4_give 36 = .ok (.getfield 44, 3) := by decide +kernel
theorem dX4_give_39 : decode cX4_give 39 = .ok (.iload_n 1, 1) := by decide +kernel
theorem dX4_give_40 : decode cX4_give 40 = .ok (.iaload, 1) := by decide +kernel
theorem dX4_give_41 : decode cX4_give 41 = .ok (.istore_n 3, 1) := by decide +kernel
theorem dX4_give_42 : decode cX4_give 42 = .ok (.aload_n 0, 1) := by decide +kernel
theorem dX4_give_43 : decode cX4_give 43 = .ok (.getfield 44, 3) := by decide +kernel
theorem dX4_give_46 : decode cX4_give 46 = .ok (.iload_n 1, 1) := by decide +kernel
theorem dX4_give_47 : decode cX4_give 47 = .ok (.iload_n 2, 1) := by decide +kernel
theorem dX4_give_48 : decode cX4_give 48 = .ok (.iastore, 1) := by decide +kernel
theorem dX4_give_49 : decode cX4_give 49 = .ok (.iload_n 3, 1) := by decide +kernel
theorem dX4_give_50 : decode cX4_give 50 = .ok (.ireturn, 1) := by decide +kernel
theorem dX4_strict_0 : decode cX4_strict 0 = .ok (.aload_n 0, 1) := by decide +kernel
theorem dX4_strict_1 : decode cX4_strict 1 = .ok (.iconst 0, 1) := by decide +kernel
theorem dX4_strict_2 : decode cX4_strict 2 = .ok (.putfield 99, 3) := by decide +kernel
theorem dX4_strict_5 : decode cX4_strict 5 = .ok (.aload_n 0, 1) := by decide +kernel
theorem dX4_strict_6 : decode cX4_strict 6 = .ok (.getfield 124, 3) := by decide +kernel
theorem dX4_strict_9 : decode cX4_strict 9 = .ok (.istore_n 2, 1) := by decide +kernel
theorem dX4_strict_10 : decode cX4_strict 10 = .ok (.aload_n 0, 1) := by decide +kernel
theorem dX4_strict_11 : decode cX4_strict 11 = .ok (.iload_n 1, 1) := by decide +kernel
theorem dX4_strict_12 : decode cX4_strict 12 = .ok (.putfield 124, 3) := by decide +kernel
theorem dX4_strict_15 : decode cX4_strict 15 = .ok (.iload_n 2, 1) := by decide +kernel
theorem dX4_strict_16 : decode cX4_strict 16 = .ok (.ireturn, 1) := by decide +kernel
theorem dX4_isOfTurn_0 : decode cX4_isOfTurn 0 = .ok (.iload_n 0, 1) := by decide +kernel
theorem dX4_isOfTurn_1 : decode cX4_isOfTurn 1 = .ok (.iconst 4, 1) := by decide +kernel
theorem dX4_isOfTurn_2 : decode cX4_isOfTurn 2 = .ok (.bipush 8, 2) := by decide +kernel
theorem dX4_isOfTurn_4 : decode cX4_isOfTurn 4 = .ok (.invokestatic 102, 3) := by decide +kernel
theorem dX4_isOfTurn_7 : decode cX4_isOfTurn 7 = .ok (.ifCond .ne 15, 3) := by decide +kernel
theorem dX4_isOfTurn_10 : decode cX4_isOfTurn 10 = .ok (.iload_n 0, 1) := by decide +kernel
theorem dX4_isOfTurn_11 : decode cX4_isOfTurn 11 = .ok (.bipush 14, 2) := by decide +kernel
theorem dX4_isOfTurn_13 : decode cX4_isOfTurn 13 = .ok (.if_icmp .eq 9, 3) := by decide +kernel
theorem dX4_isOfTurn_16 : decode cX4_isOfTurn 16 = .ok (.iload_n 0, 1) := by decide +kernel
theorem dX4_isOfTurn_17 : decode cX4_isOfTurn 17 = .ok (.bipush 15, 2) := by decide +kernel
theorem dX4_isOfTurn_19 : decode cX4_isOfTurn 19 = .ok (.if_icmp .ne 7, 3) := by decide +kernel
theorem dX4_isOfTurn_22 : decode cX4_isOfTurn 22 = .ok (.iconst 1, 1) := by decide +kernel
theorem dX4_isOfTurn_23 : decode cX4_isOfTurn 23 = .ok (.goto 4, 3) := by decide +kernel
theorem dX4_isOfTurn_26 : decode cX4_isOfTurn 26 = .ok (.iconst 0, 1) := by decide +kernel
theorem dX4_isOfTurn_27 : decode cX4_isOfTurn 27 = .ok (.ireturn, 1) := by decide +kernel
theorem dX4_isOfAtom_0 : decode cX4_isOfAtom 0 = .ok (.iload_n 0, 1) := by decide +kernel
theorem dX4_isOfAtom_1 : decode cX4_isOfAtom 1 = .ok (.ifCond .eq 19, 3) := by decide +kernel
theorem dX4_isOfAtom_4 : decode cX4_isOfAtom 4 = .ok (.iload_n 0, 1) := by decide +kernel
theorem dX4_isOfAtom_5 : decode cX4_isOfAtom 5 = .ok (.iconst 1, 1) := by decide +kernel
theorem dX4_isOfAtom_6 : decode cX4_isOfAtom 6 = .ok (.if_icmp .eq 14, 3) := by decide +kernel
theorem dX4_isOfAtom_9 : decode cX4_isOfAtom 9 = .ok (.iload_n 0, 1) := by decide +kernel
theorem dX4_isOfAtom_10 : decode cX4_isOfAtom 10 = .ok (.bipush 9, 2) := by decide +kernel
theorem dX4_isOfAtom_12 : decode cX4_isOfAtom 12 = .ok (.bipush 12, 2) := by decide +kernel
theorem dX4_isOfAtom_14 : decode cX4_isOfAtom 14 = .ok (.invokestatic 102, 3) := by decide +kernel
theorem dX4_isOfAtom_17 : decode cX4_isOfAtom 17 = .ok (.ifCond .eq 7, 3) := by decide +kernel
theorem dX4_isOfAtom_20 : decode cX4_isOfAtom 20 = .ok (.iconst 1, 1) := by decide +kernel
theorem dX4_isOfAtom_21 : decode cX4_isOfAtom 21 = .ok (.goto 4, 3) := by decide +kernel
theorem dX4_isOfAtom_24 : decode cX4_isOfAtom 24 = .ok (.iconst 0, 1) := by decide +kernel
theorem dX4_isOfAtom_25 : decode cX4_isOfAtom 25 = .ok (.ireturn, 1) := by decide +kernel
theorem dX4_one_0 : decode cX4_one 0 = .ok (.iload_n 0, 1) := by decide +kernel
theorem dX4_one_1 : decode cX4_one 1 = .ok (.iconst 1, 1) := by decide +kernel
theorem dX4_one_2 : decode cX4_one 2 = .ok (.if_icmp .ne 7, 3) := by decide +kernel
theorem dX4_one_5 : decode cX4_one 5 = .ok (.iconst 0, 1) := by decide +kernel
theorem dX4_one_6 : decode cX4_one 6 = .ok (.goto 32, 3) := by decide +kernel
theorem dX4_one_9 : decode cX4_one 9 = .ok (.iload_n 0, 1) := by decide +kernel
theorem dX4_one_10 : decode cX4_one 10 = .ok (.iconst 2, 1) := by decide +kernel
theorem dX4_one_11 : decode cX4_one 11 = .ok (.if_icmp .ne 7, 3) := by decide +kernel
theorem dX4_one_14 : decode cX4_one 14 = .ok (.iconst 1, 1) := by decide +kernel
theorem dX4_one_15 : decode cX4_one 15 = .ok (.goto 23, 3) := by decide +kernel
theorem dX4_one_18 : decode cX4_one 18 = .ok (.iload_n 0, 1) := by decide +kernel
theorem dX4_one_19 : decode cX4_one 19 = .ok (.iconst 4, 1) := by decide +kernel
theorem dX4_one_20 : decode cX4_one 20 = .ok (.if_icmp .ne 7, 3) := by decide +kernel
theorem dX4_one_23 : decode cX4_one 23 = .ok (.iconst 2, 1) := by decide +kernel
theorem dX4_one_24 : decode cX4_one 24 = .ok (.goto 14, 3) := by decide +kernel
theorem dX4_one_27 : decode cX4_one 27 = .ok (.iload_n 0, 1) := by decide +kernel
theorem dX4_one_28 : decode cX4_one 28 = .ok (.bipush 8, 2) := by decide +kernel
theorem dX4_one_30 : decode cX4_one 30 = .ok (.if_icmp .ne 7, 3) := by decide +kernel
theorem dX4_one_33 : decode cX4_one 33 = .ok (.iconst 3, 1) := by decide +kernel
theorem dX4_one_34 : decode cX4_one 34 = .ok (.goto 4, 3) := by decide +kernel
theorem dX4_one_37 : decode cX4_one 37 = .ok (.iconst (-1), 1) := by decide +kernel
theorem dX4_one_38 : decode cX4_one 38 = .ok (.ireturn, 1) := by decide +kernel
theorem dX4_isTold_0 : decode cX4_isTold 0 = .ok (.iload_n 2, 1) := by decide +kernel
theorem dX4_isTold_1 : decode cX4_isTold 1 = .ok (.iconst 0, 1) := by decide +kernel
theorem dX4_isTold_2 : decode cX4_isTold 2 = .ok (.bipush 15, 2) := by decide +kernel
theorem dX4_isTold_4 : decode cX4_isTold 4 = .ok (.invokestatic 102, 3) := by decide +kernel
theorem dX4_isTold_7 : decode cX4_isTold 7 = .ok (.ifCond .eq 27, 3) := by decide +kernel
theorem dX4_isTold_10 : decode cX4_isTold 10 = .ok (.iload 5, 2) := by decide +kernel
theorem dX4_isTold_12 : decode cX4_isTold 12 = .ok (.iconst 1, 1) := by decide +kernel
theorem dX4_isTold_13 : decode cX4_isTold 13 = .ok (.bipush 15, 2) := by decide +kernel
theorem dX4_isTold_15 : decode cX4_isTold 15 = .ok (.invokestatic 102, 3) := by decide +kernel
theorem dX4_isTold_18 : decode cX4_isTold 18 = .ok (.ifCond .eq 16, 3) := by decide +kernel
theorem dX4_isTold_21 : decode cX4_isTold 21 = .ok (.iload 5, 2) := by decide +kernel
theorem dX4_isTold_23 : decode cX4_isTold 23 = .ok (.iload_n 1, 1) := by decide +kernel
theorem dX4_isTold_24 : decode cX4_isTold 24 = .ok (.invokestatic 114, 3) := by decide +kernel
theorem dX4_isTold_27 : decode cX4_isTold 27 = .ok (.ifCond .ne 7, 3) := by decide +kernel
theorem dX4_isTold_30 : decode cX4_isTold 30 = .ok (.iconst 1, 1) := by decide +kernel
theorem dX4_isTold_31 : decode cX4_isTold 31 = .ok (.goto 4, 3) := by decide +kernel
theorem dX4_isTold_34 : decode cX4_isTold 34 = .ok (.iconst 0, 1) := by decide +kernel
theorem dX4_isTold_35 : decode cX4_isTold 35 = .ok (.istore 7, 2) := by decide +kernel
theorem dX4_isTold_37 : decode cX4_isTold 37 = .ok (.iload 7, 2) := by decide +kernel
theorem dX4_isTold_39 : decode cX4_isTold 39 = .ok (.ifCond .eq 42, 3) := by decide +kernel
theorem dX4_isTold_42 : decode cX4_isTold 42 = .ok (.iload_n 2, 1) := by decide +kernel
theorem dX4_isTold_43 : decode cX4_isTold 43 = .ok (.invokestatic 128, 3) := by decide +kernel
theorem dX4_isTold_46 : decode cX4_isTold 46 = .ok (.ifCond .eq 17, 3) := by decide +kernel
theorem dX4_isTold_49 : decode cX4_isTold 49 = .ok (.iload_n 3, 1) := by decide +kernel
theorem dX4_isTold_50 : decode cX4_isTold 50 = .ok (.iconst 0, 1) := by decide +kernel
theorem dX4_isTold_51 : decode cX4_isTold 51 = .ok (.aload_n 0, 1) := by decide +kernel
theorem dX4_isTold_52 : decode cX4_isTold 52 = .ok (.getfield 131, 3) := by decide +kernel
theorem dX4_isTold_55 : decode cX4_isTold 55 = .ok (.iconst 1, 1) := by decide +kernel
theorem dX4_isTold_56 : decode cX4_isTold 56 = .ok (.isub, 1) := by decide +kernel
theorem dX4_isTold_57 : decode cX4_isTold 57 = .ok (.invokestatic 102, 3) := by decide +kernel
theorem dX4_isTold_60 : decode cX4_isTold 60 = .ok (.ifCond .eq 21, 3) := by decide +kernel
theorem dX4_isTold_63 : decode cX4_isTold 63 = .ok (.iload_n 2, 1) := by decide +kernel
theorem dX4_isTold_64 : decode cX4_isTold 64 = .ok (.invokestatic 134, 3) := by decide +kernel
theorem dX4_isTold_67 : decode cX4_isTold 67 = .ok (.ifCond .eq 10, 3) := by decide +kernel
theorem dX4_isTold_70 : decode cX4_isTold 70 = .ok (.iload_n 3, 1) := by decide +kernel
theorem dX4_isTold_71 : decode cX4_isTold 71 = .ok (.invokestatic 118, 3) := by decide +kernel
theorem dX4_isTold_74 : decode cX4_isTold 74 = .ok (.ifCond .eq 7, 3) := by decide +kernel
theorem dX4_isTold_77 : decode cX4_isTold 77 = .ok (.iconst 1, 1) := by decide +kernel
theorem dX4_isTold_78 : decode cX4_isTold 78 = .ok (.goto 4, 3) := by decide +kernel
theorem dX4_isTold_81 : decode cX4_isTold 81 = .ok (.iconst 0, 1) := by decide +kernel
theorem dX4_isTold_82 : decode cX4_isTold 82 = .ok (.istore 7, 2) := by decide +kernel
theorem dX4_isTold_84 : decode cX4_isTold 84 = .ok (.iload 7, 2) := by decide +kernel
theorem dX4_isTold_86 : decode cX4_isTold 86 = .ok (.ifCond .eq 62, 3) := by decide +kernel
theorem dX4_isTold_89 : decode cX4_isTold 89 = .ok (.iload_n 2, 1) := by decide +kernel
theorem dX4_isTold_90 : decode cX4_isTold 90 = .ok (.ifCond .eq 9, 3) := by decide +kernel
theorem dX4_isTold_93 : decode cX4_isTold 93 = .ok (.iload_n 2, 1) := by decide +kernel
theorem dX4_isTold_94 : decode cX4_isTold 94 = .ok (.bipush 11, 2) := by decide +kernel
theorem dX4_isTold_96 : decode cX4_isTold 96 = .ok (.if_icmp .ne 13, 3) := by decide +kernel
theorem dX4_isTold_99 : decode cX4_isTold 99 = .ok (.iload 4, 2) := by decide +kernel
theorem dX4_isTold_101 : decode cX4_isTold 101 = .ok (.iconst 1, 1) := by decide +kernel
theorem dX4_isTold_102 : decode cX4_isTold 102 = .ok (.iconst 2, 1) := by decide +kernel
theorem dX4_isTold_103 : decode cX4_isTold 103 = .ok (.invokestatic 102, 3) := by decide +kernel
theorem dX4_isTold_106 : decode cX4_isTold 106 = .ok (.ifCond .eq 42, 3) := by decide +kernel
theorem dX4_isTold_109 : decode cX4_isTold 109 = .ok (.iload_n 2, 1) := by decide +kernel
theorem dX4_isTold_110 : decode cX4_isTold 110 = .ok (.iconst 2, 1) := by decide +kernel
theorem dX4_isTold_111 : decode cX4_isTold 111 = .ok (.if_icmp .ne 13, 3) := by decide +kernel
theorem dX4_isTold_114 : decode cX4_isTold 114 = .ok (.iload 4, 2) := by decide +kernel
theorem dX4_isTold_116 : decode cX4_isTold 116 = .ok (.iconst 0, 1) := by decide +kernel
theorem dX4_isTold_117 : decode cX4_isTold 117 = .ok (.iconst 2, 1) := by decide +kernel
theorem dX4_isTold_118 : decode cX4_isTold 118 = .ok (.invokestatic 102, 3) := by decide +kernel
theorem dX4_isTold_121 : decode cX4_isTold 121 = .ok (.ifCond .eq 27, 3) := by decide +kernel
theorem dX4_isTold_124 : decode cX4_isTold 124 = .ok (.iload_n 2, 1) := by decide +kernel
theorem dX4_isTold_125 : decode cX4_isTold 125 = .ok (.bipush 9, 2) := by decide +kernel
theorem dX4_isTold_127 : decode cX4_isTold 127 = .ok (.if_icmp .ne 17, 3) := by decide +kernel
theorem dX4_isTold_130 : decode cX4_isTold 130 = .ok (.iload 4, 2) := by decide +kernel
theorem dX4_isTold_132 : decode cX4_isTold 132 = .ok (.invokestatic 118, 3) := by decide +kernel
theorem dX4_isTold_135 : decode cX4_isTold 135 = .ok (.ifCond .eq 13, 3) := by decide +kernel
theorem dX4_isTold_138 : decode cX4_isTold 138 = .ok (.iload 4, 2) := by decide +kernel
theorem dX4_isTold_140 : decode cX4_isTold 140 = .ok (.iload_n 3, 1) := by decide +kernel
theorem dX4_isTold_141 : decode cX4_isTold 141 = .ok (.if_icmp .eq 7, 3) := by decide +kernel
theorem dX4_isTold_144 : decode cX4_isTold 144 = .ok (.iconst 1, 1) := by decide +kernel
theorem dX4_isTold_145 : decode cX4_isTold 145 = .ok (.goto 4, 3) := by decide +kernel
theorem dX4_isTold_148 : decode cX4_isTold 148 = .ok (.iconst 0, 1) := by decide +kernel
theorem dX4_isTold_149 : decode cX4_isTold 149 = .ok (.istore 7, 2) := by decide +kernel
theorem dX4_isTold_151 : decode cX4_isTold 151 = .ok (.iload 7, 2) := by decide +kernel
theorem dX4_isTold_153 : decode cX4_isTold 153 = .ok (.ifCond .eq 43, 3) := by decide +kernel
theorem dX4_isTold_156 : decode cX4_isTold 156 = .ok (.iload_n 2, 1) := by decide +kernel
theorem dX4_isTold_157 : decode cX4_isTold 157 = .ok (.iconst 1, 1) := by decide +kernel
theorem dX4_isTold_158 : decode cX4_isTold 158 = .ok (.if_icmp .gt 14, 3) := by decide +kernel
theorem dX4_isTold_161 : decode cX4_isTold 161 = .ok (.iload 6, 2) := by decide +kernel
theorem dX4_isTold_163 : decode cX4_isTold 163 = .ok (.iconst (-1), 1) := by decide +kernel
theorem dX4_isTold_164 : decode cX4_isTold 164 = .ok (.bipush 9, 2) := by decide +kernel
theorem dX4_isTold_166 : decode cX4_isTold 166 = .ok (.invokestatic 102, 3) := by decide +kernel
theorem dX4_isTold_169 : decode cX4_isTold 169 = .ok (.ifCond .eq 27, 3) := by decide +kernel
theorem dX4_isTold_172 : decode cX4_isTold 172 = .ok (.iload_n 2, 1) := by decide +kernel
theorem dX4_isTold_173 : decode cX4_isTold 173 = .ok (.iconst 1, 1) := by decide +kernel
theorem dX4_isTold_174 : decode cX4_isTold 174 = .ok (.if_icmp .eq 9, 3) := by decide +kernel
theorem dX4_isTold_177 : decode cX4_isTold 177 = .ok (.iload_n 2, 1) := by decide +kernel
theorem dX4_isTold_178 : decode cX4_isTold 178 = .ok (.bipush 13, 2) := by decide +kernel
theorem dX4_isTold_180 : decode cX4_isTold 180 = .ok (.if_icmp .ne 12, 3) := by decide +kernel
theorem dX4_isTold_183 : decode cX4_isTold 183 = .ok (.iload 5, 2) := by decide +kernel
theorem dX4_isTold_185 : decode cX4_isTold 185 = .ok (.invokestatic 137, 3) := by decide +kernel
theorem dX4_isTold_188 : decode cX4_isTold 188 = .ok (.iconst (-1), 1) := by decide +kernel
theorem dX4_isTold_189 : decode cX4_isTold 189 = .ok (.if_icmp .eq 7, 3) := by decide +kernel
theorem dX4_isTold_192 : decode cX4_isTold 192 = .ok (.iconst 1, 1) := by decide +kernel
theorem dX4_isTold_193 : decode cX4_isTold 193 = .ok (.goto 4, 3) := by decide +kernel
theorem dX4_isTold_196 : decode cX4_isTold 196 = .ok (.iconst 0, 1) := by decide +kernel
theorem dX4_isTold_197 : decode cX4_isTold 197 = .ok (.istore 7, 2) := by decide +kernel
theorem dX4_isTold_199 : decode cX4_isTold 199 = .ok (.iload 7, 2) := by decide +kernel
theorem dX4_isTold_201 : decode cX4_isTold 201 = .ok (.ifCond .eq 54, 3) := by decide +kernel
theorem dX4_isTold_204 : decode cX4_isTold 204 = .ok (.iload_n 2, 1) := by decide +kernel
theorem dX4_isTold_205 : decode cX4_isTold 205 = .ok (.bipush 13, 2) := by decide +kernel
theorem dX4_isTold_207 : decode cX4_isTold 207 = .ok (.if_icmp .ne 44, 3) := by decide +kernel
theorem dX4_isTold_210 : decode cX4_isTold 210 = .ok (.iload_n 3, 1) := by decide +kernel
theorem dX4_isTold_211 : decode cX4_isTold 211 = .ok (.iconst 0, 1) := by decide +kernel
theorem dX4_isTold_212 : decode cX4_isTold 212 = .ok (.sipush 255, 3) := by decide +kernel
theorem dX4_isTold_215 : decode cX4_isTold 215 = .ok (.invokestatic 102, 3) := by decide +kernel
theorem dX4_isTold_218 : decode cX4_isTold 218 = .ok (.ifCond .eq 37, 3) := by decide +kernel
theorem dX4_isTold_221 : decode cX4_isTold 221 = .ok (.iload 4, 2) := by decide +kernel
theorem dX4_isTold_223 : decode cX4_isTold 223 = .ok (.iconst 0, 1) := by decide +kernel
theorem dX4_isTold_224 : decode cX4_isTold 224 = .ok (.sipush 255, 3) := by decide +kernel
theorem dX4_isTold_227 : decode cX4_isTold 227 = .ok (.invokestatic 102, 3) := by decide +kernel
theorem dX4_isTold_230 : decode cX4_isTold 230 = .ok (.ifCond .eq 25, 3) := by decide +kernel
theorem dX4_isTold_233 : decode cX4_isTold 233 = .ok (.iload_n 3, 1) := by decide +kernel
theorem dX4_isTold_234 : decode cX4_isTold 234 = .ok (.iload 4, 2) := by decide +kernel
theorem dX4_isTold_236 : decode cX4_isTold 236 = .ok (.iadd, 1) := by decide +kernel
theorem dX4_isTold_237 : decode cX4_isTold 237 = .ok (.ifCond .le 18, 3) := by decide +kernel
theorem dX4_isTold_240 : decode cX4_isTold 240 = .ok (.iload 6, 2) := by decide +kernel
theorem dX4_isTold_242 : decode cX4_isTold 242 = .ok (.iconst 1, 1) := by decide +kernel
theorem dX4_isTold_243 : decode cX4_isTold 243 = .ok (.bipush 20, 2) := by decide +kernel
theorem dX4_isTold_245 : decode cX4_isTold 245 = .ok (.invokestatic 102, 3) := by decide +kernel
theorem dX4_isTold_248 : decode cX4_isTold 248 = .ok (.ifCond .eq 7, 3) := by decide +kernel
theorem dX4_isTold_251 : decode cX4_isTold 251 = .ok (.iconst 1, 1) := by decide +kernel
theorem dX4_isTold_252 : decode cX4_isTold 252 = .ok (.goto 4, 3) := by decide +kernel
theorem dX4_isTold_255 : decode cX4_isTold 255 = .ok (.iconst 0, 1) := by decide +kernel
theorem dX4_isTold_256 : decode cX4_isTold 256 = .ok (.ireturn, 1) := by decide +kernel
theorem dX4_owns_0 : decode cX4_owns 0 = .ok (.iconst 1, 1) := by decide +kernel
theorem dX4_owns_1 : decode cX4_owns 1 = .ok (.istore_n 3, 1) := by decide +kernel
theorem dX4_owns_2 : decode cX4_owns 2 = .ok (.iconst 0, 1) := by decide +kernel
theorem dX4_owns_3 : decode cX4_owns 3 = .ok (.istore 4, 2) := by decide +kernel
theorem dX4_owns_5 : decode cX4_owns 5 = .ok (.iload 4, 2) := by decide +kernel
theorem dX4_owns_7 : decode cX4_owns 7 = .ok (.bipush 8, 2) := by decide +kernel
theorem dX4_owns_9 : decode cX4_owns 9 = .ok (.if_icmp .ge 39, 3) := by decide +kernel
theorem dX4_owns_12 : decode cX4_owns 12 = .ok (.iload_n 3, 1) := by decide +kernel
theorem dX4_owns_13 : decode cX4_owns 13 = .ok (.ifCond .eq 27, 3) := by decide +kernel
theorem dX4_owns_16 : decode cX4_owns 16 = .ok (.iload_n 2, 1) := by decide +kernel
theorem dX4_owns_17 : decode cX4_owns 17 = .ok (.iload 4, 2) := by decide +kernel
theorem dX4_owns_19 : decode cX4_owns 19 = .ok (.invokestatic 114, 3) := by decide +kernel
theorem dX4_owns_22 : decode cX4_owns 22 = .ok (.ifCond .eq 14, 3) := by decide +kernel
theorem dX4_owns_25 : decode cX4_owns 25 = .ok (.aload_n 0, 1) := by decide +kernel
theorem dX4_owns_26 : decode cX4_owns 26 = .ok (.getfield 44, 3) := by decide +kernel
theorem dX4_owns_29 : decode cX4_owns 29 = .ok (.iload 4, 2) := by decide +kernel
theorem dX4_owns_31 : decode cX4_owns 31 = .ok (.iaload, 1) := by decide +kernel
theorem dX4_owns_32 : decode cX4_owns 32 = .ok (.iload_n 1, 1) := by decide +kernel
theorem dX4_owns_33 : decode cX4_owns 33 = .ok (.if_icmp .ne 7, 3) := by decide +kernel
theorem dX4_owns_36 : decode cX4_owns 36 = .ok (.iconst 1, 1) := by decide +kernel
theorem dX4_owns_37 : decode cX4_owns 37 = .ok (.goto 4, 3) := by decide +kernel
theorem dX4_owns_40 : decode cX4_owns 40 = .ok (.iconst 0, 1) := by decide +kernel
theorem dX4_owns_41 : decode cX4_owns 41 = .ok (.istore_n 3, 1) := by decide +kernel
theorem dX4_owns_42 : decode cX4_owns 42 = .ok (.iinc 4 1, 3) := by decide +kernel
theorem dX4_owns_45 : decode cX4_owns 45 = .ok (.goto (-40), 3) := by decide +kernel
theorem dX4_owns_48 : decode cX4_owns 48 = .ok (.iload_n 3, 1) := by decide +kernel
theorem dX4_owns_49 : decode cX4_owns 49 = .ok (.ireturn, 1) := by decide +kernel
theorem dX4_isMissed_0 : decode cX4_isMissed 0 = .ok (.iconst 0, 1) := by decide +kernel
theorem dX4_isMissed_1 : decode cX4_isMissed 1 = .ok (.istore_n 2, 1) := by decide +kernel
theorem dX4_isMissed_2 : decode cX4_isMissed 2 = .ok (.iconst 0, 1) := by decide +kernel
theorem dX4_isMissed_3 : decode cX4_isMissed 3 = .ok (.istore_n 3, 1) := by decide +kernel
theorem dX4_isMissed_4 : decode cX4_isMissed 4 = .ok (.iload_n 3, 1) := by decide +kernel
theorem dX4_isMissed_5 : decode cX4_isMissed 5 = .ok (.iconst 4, 1) := by decide +kernel
theorem dX4_isMissed_6 : decode cX4_isMissed 6 = .ok (.if_icmp .ge 33, 3) := by decide +kernel
theorem dX4_isMissed_9 : decode cX4_isMissed 9 = .ok (.iload_n 2, 1) := by decide +kernel
theorem dX4_isMissed_10 : decode cX4_isMissed 10 = .ok (.ifCond .ne 17, 3) := by decide +kernel
theorem dX4_isMissed_13 : decode cX4_isMissed 13 = .ok (.aload_n 0, 1) := by decide +kernel
theorem dX4_isMissed_14 : decode cX4_isMissed 14 = .ok (.getfield 77, 3) := by decide +kernel
theorem dX4_isMissed_17 : decode cX4_isMissed 17 = .ok (.iconst 4, 1) := by decide +kernel
theorem dX4_isMissed_18 : decode cX4_isMissed 18 = .ok (.iload_n 1, 1) := by decide +kernel
theorem dX4_isMissed_19 : decode cX4_isMissed 19 = .ok (.imul, 1) := by decide +kernel
theorem dX4_isMissed_20 : decode cX4_isMissed 20 = .ok (.iload_n 3, 1) := by decide +kernel
theorem dX4_isMissed_21 : decode cX4_isMissed 21 = .ok (.iadd, 1) := by decide +kernel
theorem dX4_isMissed_22 : decode cX4_isMissed 22 = .ok (.iaload, 1) := by decide +kernel
theorem dX4_isMissed_23 : decode cX4_isMissed 23 = .ok (.iconst 1, 1) := by decide +kernel
theorem dX4_isMissed_24 : decode cX4_isMissed 24 = .ok (.if_icmp .ne 7, 3) := by decide +kernel
theorem dX4_isMissed_27 : decode cX4_isMissed 27 = .ok (.iconst 1, 1) := by decide +kernel
theorem dX4_isMissed_28 : decode cX4_isMissed 28 = .ok (.goto 4, 3) := by decide +kernel
theorem dX4_isMissed_31 : decode cX4_isMissed 31 = .ok (.iconst 0, 1) := by decide +kernel
theorem dX4_isMissed_32 : decode cX4_isMissed 32 = .ok (.istore_n 2, 1) := by decide +kernel
theorem dX4_isMissed_33 : decode cX4_isMissed 33 = .ok (.iinc 3 1, 3) := by decide +kernel
theorem dX4_isMissed_36 : decode cX4_isMissed 36 = .ok (.goto (-32), 3) := by decide +kernel
theorem dX4_isMissed_39 : decode cX4_isMissed 39 = .ok (.iload_n 2, 1) := by decide +kernel
theorem dX4_isMissed_40 : decode cX4_isMissed 40 = .ok (.ireturn, 1) := by decide +kernel
theorem dX4_isClaim_0 : decode cX4_isClaim 0 = .ok (.aload_n 0, 1) := by decide +kernel
theorem dX4_isClaim_1 : decode cX4_isClaim 1 = .ok (.getfield 65, 3) := by decide +kernel
theorem dX4_isClaim_4 : decode cX4_isClaim 4 = .ok (.iload_n 1, 1) := by decide +kernel
theorem dX4_isClaim_5 : decode cX4_isClaim 5 = .ok (.iaload, 1) := by decide +kernel
theorem dX4_isClaim_6 : decode cX4_isClaim 6 = .ok (.iconst 1, 1) := by decide +kernel
theorem dX4_isClaim_7 : decode cX4_isClaim 7 = .ok (.if_icmp .ne 35, 3) := by decide +kernel
theorem dX4_isClaim_10 : decode cX4_isClaim 10 = .ok (.aload_n 0, 1) := by decide +kernel
theorem dX4_isClaim_11 : decode cX4_isClaim 11 = .ok (.getfield 50, 3) := by decide +kernel
theorem dX4_isClaim_14 : decode cX4_isClaim 14 = .ok (.iload_n 1, 1) := by decide +kernel
theorem dX4_isClaim_15 : decode cX4_isClaim 15 = .ok (.iaload, 1) := by decide +kernel
theorem dX4_isClaim_16 : decode cX4_isClaim 16 = .ok (.ifCond .eq 22, 3) := by decide +kernel
theorem dX4_isClaim_19 : decode cX4_isClaim 19 = .ok (.aload_n 0, 1) := by decide +kernel
theorem dX4_isClaim_20 : decode cX4_isClaim 20 = .ok (.getfield 50, 3) := by decide +kernel
theorem dX4_isClaim_23 : decode cX4_isClaim 23 = .ok (.iload_n 1, 1) := by decide +kernel
theorem dX4_isClaim_24 : decode cX4_isClaim 24 = .ok (.iaload, 1) := by decide +kernel
theorem dX4_isClaim_25 : decode cX4_isClaim 25 = .ok (.iconst 2, 1) := by decide +kernel
theorem dX4_isClaim_26 : decode cX4_isClaim 26 = .ok (.if_icmp .ne 16, 3) := by decide +kernel
theorem dX4_isClaim_29 : decode cX4_isClaim 29 = .ok (.aload_n 0, 1) := by decide +kernel
theorem dX4_isClaim_30 : decode cX4_isClaim 30 = .ok (.getfield 56, 3) := by decide +kernel
theorem dX4_isClaim_33 : decode cX4_isClaim 33 = .ok (.iload_n 1, 1) := by decide +kernel
theorem dX4_isClaim_34 : decode cX4_isClaim 34 = .ok (.iaload, 1) := by decide +kernel
theorem dX4_isClaim_35 : decode cX4_isClaim 35 = .ok (.ifCond .le 7, 3) := by decide +kernel
theorem dX4_isClaim_38 : decode cX4_isClaim 38 = .ok (.iconst 1, 1) := by decide +kernel
theorem dX4_isClaim_39 : decode cX4_isClaim 39 = .ok (.goto 4, 3) := by decide +kernel
theorem dX4_isClaim_42 : decode cX4_isClaim 42 = .ok (.iconst 0, 1) := by decide +kernel
theorem dX4_isClaim_43 : decode cX4_isClaim 43 = .ok (.ireturn, 1) := by decide +kernel
theorem dX4_topAsked_0 : decode cX4_topAsked 0 = .ok (.aload_n 0, 1) := by decide +kernel
theorem dX4_topAsked_1 : decode cX4_topAsked 1 = .ok (.getfield 141, 3) := by decide +kernel
theorem dX4_topAsked_4 : decode cX4_topAsked 4 = .ok (.ifCond .ne 7, 3) := by decide +kernel
theorem dX4_topAsked_7 : decode cX4_topAsked 7 = .ok (.iconst (-1), 1) := by decide +kernel
theorem dX4_topAsked_8 : decode cX4_topAsked 8 = .ok (.goto 22, 3) := by decide +kernel
theorem dX4_topAsked_11 : decode cX4_topAsked 11 = .ok (.aload_n 0, 1) := by decide +kernel
theorem dX4_topAsked_12 : decode cX4_topAsked 12 = .ok (.getfield 59, 3) := by decide +kernel
theorem dX4_topAsked_15 : decode cX4_topAsked 15 = .ok (.aload_n 0, 1) := by decide +kernel
theorem dX4_topAsked_16 : decode cX4_topAsked 16 = .ok (.getfield 86, 3) := by decide +kernel
theorem dX4_topAsked_19 : decode cX4_topAsked 19 = .ok (.aload_n 0, 1) := by decide +kernel
theorem dX4_topAsked_20 : decode cX4_topAsked 20 = .ok (.getfield 141, 3) := by decide +kernel
theorem dX4_topAsked_23 : decode cX4_topAsked 23 = .ok (.iconst 1, 1) := by decide +kernel
theorem dX4_topAsked_24 : decode cX4_topAsked 24 = .ok (.isub, 1) := by decide +kernel
theorem dX4_topAsked_25 : decode cX4_topAsked 25 = .ok (.iaload, 1) := by decide +kernel
theorem dX4_topAsked_26 : decode cX4_topAsked 26 = .ok (.iaload, 1) := by decide +kernel
theorem dX4_topAsked_27 : decode cX4_topAsked 27 = .ok (.invokestatic 137, 3) := by decide +kernel
theorem dX4_topAsked_30 : decode cX4_topAsked 30 = .ok (.ireturn, 1) := by decide +kernel
theorem dX4_isPossible_0 : decode cX4_isPossible 0 = .ok (.iload_n 2, 1) := by decide +kernel
theorem dX4_isPossible_1 : decode cX4_isPossible 1 = .ok (.tableswitch 381 1 15 #[75, 90, 104, 137, 167, 197, 231, 231, 259, 259, 381, 279, 299, 328, 328], 75) := by decide +kernel
theorem dX4_isPossible_76 : decode cX4_isPossible 76 = .ok (.aload_n 0, 1) := by decide +kernel
theorem dX4_isPossible_77 : decode cX4_isPossible 77 = .ok (.getfield 141, 3) := by decide +kernel
theorem dX4_isPossible_80 : decode cX4_isPossible 80 = .ok (.bipush 6, 2) := by decide +kernel
theorem dX4_isPossible_82 : decode cX4_isPossible 82 = .ok (.if_icmp .ge 7, 3) := by decide +kernel
theorem dX4_isPossible_85 : decode cX4_isPossible 85 = .ok (.iconst 1, 1) := by decide +kernel
theorem dX4_isPossible_86 : decode cX4_isPossible 86 = .ok (.goto 4, 3) := by decide +kernel
theorem dX4_isPossible_89 : decode cX4_isPossible 89 = .ok (.iconst 0, 1) := by decide +kernel
theorem dX4_isPossible_90 : decode cX4_isPossible 90 = .ok (.ireturn, 1) := by decide +kernel
theorem dX4_isPossible_91 : decode cX4_isPossible 91 = .ok (.aload_n 0, 1) := by decide +kernel
theorem dX4_isPossible_92 : decode cX4_isPossible 92 = .ok (.invokevirtual 144, 3) := by decide +kernel
theorem dX4_isPossible_95 : decode cX4_isPossible 95 = .ok (.iload_n 1, 1) := by decide +kernel
theorem dX4_isPossible_96 : decode cX4_isPossible 96 = .ok (.if_icmp .ne 7, 3) := by decide +kernel
theorem dX4_isPossible_99 : decode cX4_isPossible 99 = .ok (.iconst 1, 1) := by decide +kernel
theorem dX4_isPossible_100 : decode cX4_isPossible 100 = .ok (.goto 4, 3) := by decide +kernel
theorem dX4_isPossible_103 : decode cX4_isPossible 103 = .ok (.iconst 0, 1) := by decide +kernel
theorem dX4_isPossible_104 : decode cX4_isPossible 104 = .ok (.ireturn, 1) := by decide +kernel
theorem dX4_isPossible_105 : decode cX4_isPossible 105 = .ok (.aload_n 0, 1) := by decide +kernel
theorem dX4_isPossible_106 : decode cX4_isPossible 106 = .ok (.getfield 141, 3) := by decide +kernel
theorem dX4_isPossible_109 : decode cX4_isPossible 109 = .ok (.ifCond .le 27, 3) := by decide +kernel
theorem dX4_isPossible_112 : decode cX4_isPossible 112 = .ok (.aload_n 0, 1) := by decide +kernel
theorem dX4_isPossible_113 : decode cX4_isPossible 113 = .ok (.getfield 47, 3) := by decide +kernel
theorem dX4_isPossible_116 : decode cX4_isPossible 116 = .ok (.aload_n 0, 1) := by decide +kernel
theorem dX4_isPossible_117 : decode cX4_isPossible 117 = .ok (.getfield 86, 3) := by decide +kernel
theorem dX4_isPossible_120 : decode cX4_isPossible 120 = .ok (.aload_n 0, 1) := by decide +kernel
theorem dX4_isPossible_121 : decode cX4_isPossible 121 = .ok (.getfield 141, 3) := by decide +kernel
theorem dX4_isPossible_124 : decode cX4_isPossible 124 = .ok (.iconst 1, 1) := by decide +kernel
theorem dX4_isPossible_125 : decode cX4_isPossible 125 = .ok (.isub, 1) := by decide +kernel
theorem dX4_isPossible_126 : decode cX4_isPossible 126 = .ok (.iaload, 1) := by decide +kernel
theorem dX4_isPossible_127 : decode cX4_isPossible 127 = .ok (.iaload, 1) := by decide +kernel
theorem dX4_isPossible_128 : decode cX4_isPossible 128 = .ok (.iload_n 1, 1) := by decide +kernel
theorem dX4_isPossible_129 : decode cX4_isPossible 129 = .ok (.if_icmp .ne 7, 3) := by decide +kernel
theorem dX4_isPossible_132 : decode cX4_isPossible 132 = .ok (.iconst 1, 1) := by decide +kernel
theorem dX4_isPossible_133 : decode cX4_isPossible 133 = .ok (.goto 4, 3) := by decide +kernel
theorem dX4_isPossible_136 : decode cX4_isPossible 136 = .ok (.iconst 0, 1) := by decide +kernel
theorem dX4_isPossible_137 : decode cX4_isPossible 137 = .ok (.ireturn, 1) := by decide +kernel
theorem dX4_isPossible_138 : decode cX4_isPossible 138 = .ok (.aload_n 0, 1) := by decide +kernel
theorem dX4_isPossible_139 : decode cX4_isPossible 139 = .ok (.getfield 65, 3) := by decide +kernel
theorem dX4_isPossible_142 : decode cX4_isPossible 142 = .ok (.iload_n 3, 1) := by decide +kernel
theorem dX4_isPossible_143 : decode cX4_isPossible 143 = .ok (.iaload, 1) := by decide +kernel
theorem dX4_isPossible_144 : decode cX4_isPossible 144 = .ok (.iconst 1, 1) := by decide +kernel
theorem dX4_isPossible_145 : decode cX4_isPossible 145 = .ok (.if_icmp .ne 21, 3) := by decide +kernel
theorem dX4_isPossible_148 : decode cX4_isPossible 148 = .ok (.aload_n 0, 1) := by decide +kernel
theorem dX4_isPossible_149 : decode cX4_isPossible 149 = .ok (.getfield 77, 3) := by decide +kernel
theorem dX4_isPossible_152 : decode cX4_isPossible 152 = .ok (.iconst 4, 1) := by decide +kernel
theorem dX4_isPossible_153 : decode cX4_isPossible 153 = .ok (.iload_n 3, 1) := by decide +kernel
theorem dX4_isPossible_154 : decode cX4_isPossible 154 = .ok (.imul, 1) := by decide +kernel
theorem dX4_isPossible_155 : decode cX4_isPossible 155 = .ok (.iload_n 1, 1) := by decide +kernel
theorem dX4_isPossible_156 : decode cX4_isPossible 156 = .ok (.iadd, 1) := by decide +kernel
theorem dX4_isPossible_157 : decode cX4_isPossible 157 = .ok (.iaload, 1) := by decide +kernel
theorem dX4_isPossible_158 : decode cX4_isPossible 158 = .ok (.iconst 3, 1) := by decide +kernel
theorem dX4_isPossible_159 : decode cX4_isPossible 159 = .ok (.if_icmp .ne 7, 3) := by decide +kernel
theorem dX4_isPossible_162 : decode cX4_isPossible 162 = .ok (.iconst 1, 1) := by decide +kernel
theorem dX4_isPossible_163 : decode cX4_isPossible 163 = .ok (.goto 4, 3) := by decide +kernel
theorem dX4_isPossible_166 : decode cX4_isPossible 166 = .ok (.iconst 0, 1) := by decide +kernel
theorem dX4_isPossible_167 : decode cX4_isPossible 167 = .ok (.ireturn, 1) := by decide +kernel
theorem dX4_isPossible_168 : decode cX4_isPossible 168 = .ok (.aload_n 0, 1) := by decide +kernel
theorem dX4_isPossible_169 : decode cX4_isPossible 169 = .ok (.getfield 65, 3) := by decide +kernel
theorem dX4_isPossible_172 : decode cX4_isPossible 172 = .ok (.iload_n 3, 1) := by decide +kernel
theorem dX4_isPossible_173 : decode cX4_isPossible 173 = .ok (.iaload, 1) := by decide +kernel
theorem dX4_isPossible_174 : decode cX4_isPossible 174 = .ok (.iconst 1, 1) := by decide +kernel
theorem dX4_isPossible_175 : decode cX4_isPossible 175 = .ok (.if_icmp .ne 21, 3) := by decide +kernel
theorem dX4_isPossible_178 : decode cX4_isPossible 178 = .ok (.aload_n 0, 1) := by decide +kernel
theorem dX4_isPossible_179 : decode cX4_isPossible 179 = .ok (.getfield 77, 3) := by decide +kernel
theorem dX4_isPossible_182 : decode cX4_isPossible 182 = .ok (.iconst 4, 1) := by decide +kernel
theorem dX4_isPossible_183 : decode cX4_isPossible 183 = .ok (.iload_n 3, 1) := by decide +kernel
theorem dX4_isPossible_184 : decode cX4_isPossible 184 = .ok (.imul, 1) := by decide +kernel
theorem dX4_isPossible_185 : decode cX4_isPossible 185 = .ok (.iload_n 1, 1) := by decide +kernel
theorem dX4_isPossible_186 : decode cX4_isPossible 186 = .ok (.iadd, 1) := by decide +kernel
theorem dX4_isPossible_187 : decode cX4_isPossible 187 = .ok (.iaload, 1) := by decide +kernel
theorem dX4_isPossible_188 : decode cX4_isPossible 188 = .ok (.iconst 1, 1) := by decide +kernel
theorem dX4_isPossible_189 : decode cX4_isPossible 189 = .ok (.if_icmp .ne 7, 3) := by decide +kernel
theorem dX4_isPossible_192 : decode cX4_isPossible 192 = .ok (.iconst 1, 1) := by decide +kernel
theorem dX4_isPossible_193 : decode cX4_isPossible 193 = .ok (.goto 4, 3) := by decide +kernel
theorem dX4_isPossible_196 : decode cX4_isPossible 196 = .ok (.iconst 0, 1) := by decide +kernel
theorem dX4_isPossible_197 : decode cX4_isPossible 197 = .ok (.ireturn, 1) := by decide +kernel
theorem dX4_isPossible_198 : decode cX4_isPossible 198 = .ok (.aload_n 0, 1) := by decide +kernel
theorem dX4_isPossible_199 : decode cX4_isPossible 199 = .ok (.getfield 65, 3) := by decide +kernel
theorem dX4_isPossible_202 : decode cX4_isPossible 202 = .ok (.iload_n 3, 1) := by decide +kernel
theorem dX4_isPossible_203 : decode cX4_isPossible 203 = .ok (.iaload, 1) := by decide +kernel
theorem dX4_isPossible_204 : decode cX4_isPossible 204 = .ok (.iconst 1, 1) := by decide +kernel
theorem dX4_isPossible_205 : decode cX4_isPossible 205 = .ok (.if_icmp .ne 25, 3) := by decide +kernel
theorem dX4_isPossible_208 : decode cX4_isPossible 208 = .ok (.aload_n 0, 1) := by decide +kernel
theorem dX4_isPossible_209 : decode cX4_isPossible 209 = .ok (.getfield 47, 3) := by decide +kernel
theorem dX4_isPossible_212 : decode cX4_isPossible 212 = .ok (.iload_n 3, 1) := by decide +kernel
theorem dX4_isPossible_213 : decode cX4_isPossible 213 = .ok (.iaload, 1) := by decide +kernel
theorem dX4_isPossible_214 : decode cX4_isPossible 214 = .ok (.iload_n 1, 1) := by decide +kernel
theorem dX4_isPossible_215 : decode cX4_isPossible 215 = .ok (.if_icmp .ne 15, 3) := by decide +kernel
theorem dX4_isPossible_218 : decode cX4_isPossible 218 = .ok (.aload_n 0, 1) := by decide +kernel
theorem dX4_isPossible_219 : decode cX4_isPossible 219 = .ok (.iload_n 3, 1) := by decide +kernel
theorem dX4_isPossible_220 : decode cX4_isPossible 220 = .ok (.invokevirtual 148, 3) := by decide +kernel
theorem dX4_isPossible_223 : decode cX4_isPossible 223 = .ok (.ifCond .eq 7, 3) := by decide +kernel
theorem dX4_isPossible_226 : decode cX4_isPossible 226 = .ok (.iconst 1, 1) := by decide +kernel
theorem dX4_isPossible_227 : decode cX4_isPossible 227 = .ok (.goto 4, 3) := by decide +kernel
theorem dX4_isPossible_230 : decode cX4_isPossible 230 = .ok (.iconst 0, 1) := by decide +kernel
theorem dX4_isPossible_231 : decode cX4_isPossible 231 = .ok (.ireturn, 1) := by decide +kernel
theorem dX4_isPossible_232 : decode cX4_isPossible 232 = .ok (.aload_n 0, 1) := by decide +kernel
theorem dX4_isPossible_233 : decode cX4_isPossible 233 = .ok (.iload_n 3, 1) := by decide +kernel
theorem dX4_isPossible_234 : decode cX4_isPossible 234 = .ok (.invokevirtual 151, 3) := by decide +kernel
theorem dX4_isPossible_237 : decode cX4_isPossible 237 = .ok (.ifCond .eq 21, 3) := by decide +kernel
theorem dX4_isPossible_240 : decode cX4_isPossible 240 = .ok (.aload_n 0, 1) := by decide +kernel
theorem dX4_isPossible_241 : decode cX4_isPossible 241 = .ok (.getfield 77, 3) := by decide +kernel
theorem dX4_isPossible_244 : decode cX4_isPossible 244 = .ok (.iconst 4, 1) := by decide +kernel
theorem dX4_isPossible_245 : decode cX4_isPossible 245 = .ok (.iload_n 3, 1) := by decide +kernel
theorem dX4_isPossible_246 : decode cX4_isPossible 246 = .ok (.imul, 1) := by decide +kernel
theorem dX4_isPossible_247 : decode cX4_isPossible 247 = .ok (.iload_n 1, 1) := by decide +kernel
theorem dX4_isPossible_248 : decode cX4_isPossible 248 = .ok (.iadd, 1) := by decide +kernel
theorem dX4_isPossible_249 : decode cX4_isPossible 249 = .ok (.iaload, 1) := by decide +kernel
theorem dX4_isPossible_250 : decode cX4_isPossible 250 = .ok (.iconst 3, 1) := by decide +kernel
theorem dX4_isPossible_251 : decode cX4_isPossible 251 = .ok (.if_icmp .lt 7, 3) := by decide +kernel
theorem dX4_isPossible_254 : decode cX4_isPossible 254 = .ok (.iconst 1, 1) := by decide +kernel
theorem dX4_isPossible_255 : decode cX4_isPossible 255 = .ok (.goto 4, 3) := by decide +kernel
theorem dX4_isPossible_258 : decode cX4_isPossible 258 = .ok (.iconst 0, 1) := by decide +kernel
theorem dX4_isPossible_259 : decode cX4_isPossible 259 = .ok (.ireturn, 1) := by decide +kernel
theorem dX4_isPossible_260 : decode cX4_isPossible 260 = .ok (.aload_n 0, 1) := by decide +kernel
theorem dX4_isPossible_261 : decode cX4_isPossible 261 = .ok (.getfield 29, 3) := by decide +kernel
theorem dX4_isPossible_264 : decode cX4_isPossible 264 = .ok (.bipush 10, 2) := by decide +kernel
theorem dX4_isPossible_266 : decode cX4_isPossible 266 = .ok (.iload_n 1, 1) := by decide +kernel
theorem dX4_isPossible_267 : decode cX4_isPossible 267 = .ok (.imul, 1) := by decide +kernel
theorem dX4_isPossible_268 : decode cX4_isPossible 268 = .ok (.iload_n 3, 1) := by decide +kernel
theorem dX4_isPossible_269 : decode cX4_isPossible 269 = .ok (.iadd, 1) := by decide +kernel
theorem dX4_isPossible_270 : decode cX4_isPossible 270 = .ok (.iaload, 1) := by decide +kernel
theorem dX4_isPossible_271 : decode cX4_isPossible 271 = .ok (.ifCond .eq 7, 3) := by decide +kernel
theorem dX4_isPossible_274 : decode cX4_isPossible 274 = .ok (.iconst 1, 1) := by decide +kernel
theorem dX4_isPossible_275 : decode cX4_isPossible 275 = .ok (.goto 4, 3) := by decide +kernel
theorem dX4_isPossible_278 : decode cX4_isPossible 278 = .ok (.iconst 0, 1) := by decide +kernel
theorem dX4_isPossible_279 : decode cX4_isPossible 279 = .ok (.ireturn, 1) := by decide +kernel
theorem dX4_isPossible_280 : decode cX4_isPossible 280 = .ok (.aload_n 0, 1) := by decide +kernel
theorem dX4_isPossible_281 : decode cX4_isPossible 281 = .ok (.getfield 35, 3) := by decide +kernel
theorem dX4_isPossible_284 : decode cX4_isPossible 284 = .ok (.bipush 10, 2) := by decide +kernel
theorem dX4_isPossible_286 : decode cX4_isPossible 286 = .ok (.iload_n 1, 1) := by decide +kernel
theorem dX4_isPossible_287 : decode cX4_isPossible 287 = .ok (.imul, 1) := by decide +kernel
theorem dX4_isPossible_288 : decode cX4_isPossible 288 = .ok (.iload_n 3, 1) := by decide +kernel
theorem dX4_isPossible_289 : decode cX4_isPossible 289 = .ok (.iadd, 1) := by decide +kernel
theorem dX4_isPossible_290 : decode cX4_isPossible 290 = .ok (.iaload, 1) := by decide +kernel
theorem dX4_isPossible_291 : decode cX4_isPossible 291 = .ok (.ifCond .eq 7, 3) := by decide +kernel
theorem dX4_isPossible_294 : decode cX4_isPossible 294 = .ok (.iconst 1, 1) := by decide +kernel
theorem dX4_isPossible_295 : decode cX4_isPossible 295 = .ok (.goto 4, 3) := by decide +kernel
theorem dX4_isPossible_298 : decode cX4_isPossible 298 = .ok (.iconst 0, 1) := by decide +kernel
theorem dX4_isPossible_299 : decode cX4_isPossible 299 = .ok (.ireturn, 1) := by decide +kernel
theorem dX4_isPossible_300 : decode cX4_isPossible 300 = .ok (.aload_n 0, 1) := by decide +kernel
theorem dX4_isPossible_301 : decode cX4_isPossible 301 = .ok (.iload_n 1, 1) := by decide +kernel
theorem dX4_isPossible_302 : decode cX4_isPossible 302 = .ok (.iload_n 3, 1) := by decide +kernel
theorem dX4_isPossible_303 : decode cX4_isPossible 303 = .ok (.invokevirtual 154, 3) := by decide +kernel
theorem dX4_isPossible_306 : decode cX4_isPossible 306 = .ok (.ifCond .eq 21, 3) := by decide +kernel
theorem dX4_isPossible_309 : decode cX4_isPossible 309 = .ok (.aload_n 0, 1) := by decide +kernel
theorem dX4_isPossible_310 : decode cX4_isPossible 310 = .ok (.iload 5, 2) := by decide +kernel
theorem dX4_isPossible_312 : decode cX4_isPossible 312 = .ok (.invokestatic 137, 3) := by decide +kernel
theorem dX4_isPossible_315 : decode cX4_isPossible 315 = .ok (.iload 4, 2) := by decide +kernel
theorem dX4_isPossible_317 : decode cX4_isPossible 317 = .ok (.invokevirtual 154, 3) := by decide +kernel
theorem dX4_isPossible_320 : decode cX4_isPossible 320 = .ok (.ifCond .eq 7, 3) := by decide +kernel
theorem dX4_isPossible_323 : decode cX4_isPossible 323 = .ok (.iconst 1, 1) := by decide +kernel
theorem dX4_isPossible_324 : decode cX4_isPossible 324 = .ok (.goto 4, 3) := by decide +kernel
theorem dX4_isPossible_327 : decode cX4_isPossible 327 = .ok (.iconst 0, 1) := by decide +kernel
theorem dX4_isPossible_328 : decode cX4_isPossible 328 = .ok (.ireturn, 1) := by decide +kernel
theorem dX4_isPossible_329 : decode cX4_isPossible 329 = .ok (.aload_n 0, 1) := by decide +kernel
theorem dX4_isPossible_330 : decode cX4_isPossible 330 = .ok (.getfield 50, 3) := by decide +kernel
theorem dX4_isPossible_333 : decode cX4_isPossible 333 = .ok (.iload_n 3, 1) := by decide +kernel
theorem dX4_isPossible_334 : decode cX4_isPossible 334 = .ok (.iaload, 1) := by decide +kernel
theorem dX4_isPossible_335 : decode cX4_isPossible 335 = .ok (.bipush 13, 2) := by decide +kernel
theorem dX4_isPossible_337 : decode cX4_isPossible 337 = .ok (.if_icmp .ne 43, 3) := by decide +kernel
theorem dX4_isPossible_340 : decode cX4_isPossible 340 = .ok (.aload_n 0, 1) := by decide +kernel
theorem dX4_isPossible_341 : decode cX4_isPossible 341 = .ok (.getfield 59, 3) := by decide +kernel
theorem dX4_isPossible_344 : decode cX4_isPossible 344 = .ok (.iload_n 3, 1) := by decide +kernel
theorem dX4_isPossible_345 : decode cX4_isPossible 345 = .ok (.iaload, 1) := by decide +kernel
theorem dX4_isPossible_346 : decode cX4_isPossible 346 = .ok (.iload_n 1, 1) := by decide +kernel
theorem dX4_isPossible_347 : decode cX4_isPossible 347 = .ok (.invokestatic 114, 3) := by decide +kernel
theorem dX4_isPossible_350 : decode cX4_isPossible 350 = .ok (.ifCond .eq 30, 3) := by decide +kernel
theorem dX4_isPossible_353 : decode cX4_isPossible 353 = .ok (.aload_n 0, 1) := by decide +kernel
theorem dX4_isPossible_354 : decode cX4_isPossible 354 = .ok (.getfield 74, 3) := by decide +kernel
theorem dX4_isPossible_357 : decode cX4_isPossible 357 = .ok (.iload_n 3, 1) := by decide +kernel
theorem dX4_isPossible_358 : decode cX4_isPossible 358 = .ok (.baload, 1) := by decide +kernel
theorem dX4_isPossible_359 : decode cX4_isPossible 359 = .ok (.ifCond .eq 21, 3) := by decide +kernel
theorem dX4_isPossible_362 : decode cX4_isPossible 362 = .ok (.aload_n 0, 1) := by decide +kernel
theorem dX4_isPossible_363 : decode cX4_isPossible 363 = .ok (.getfield 77, 3) := by decide +kernel
theorem dX4_isPossible_366 : decode cX4_isPossible 366 = .ok (.iconst 4, 1) := by decide +kernel
theorem dX4_isPossible_367 : decode cX4_isPossible 367 = .ok (.iload_n 3, 1) := by decide +kernel
theorem dX4_isPossible_368 : decode cX4_isPossible 368 = .ok (.imul, 1) := by decide +kernel
theorem dX4_isPossible_369 : decode cX4_isPossible 369 = .ok (.iload_n 1, 1) := by decide +kernel
theorem dX4_isPossible_370 : decode cX4_isPossible 370 = .ok (.iadd, 1) := by decide +kernel
theorem dX4_isPossible_371 : decode cX4_isPossible 371 = .ok (.iaload, 1) := by decide +kernel
theorem dX4_isPossible_372 : decode cX4_isPossible 372 = .ok (.iconst 3, 1) := by decide +kernel
theorem dX4_isPossible_373 : decode cX4_isPossible 373 = .ok (.if_icmp .lt 7, 3) := by decide +kernel
theorem dX4_isPossible_376 : decode cX4_isPossible 376 = .ok (.iconst 1, 1) := by decide +kernel
theorem dX4_isPossible_377 : decode cX4_isPossible 377 = .ok (.goto 4, 3) := by decide +kernel
theorem dX4_isPossible_380 : decode cX4_isPossible 380 = .ok (.iconst 0, 1) := by decide +kernel
theorem dX4_isPossible_381 : decode cX4_isPossible 381 = .ok (.ireturn, 1) := by decide +kernel
theorem dX4_isPossible_382 : decode cX4_isPossible 382 = .ok (.iconst 1, 1) := by decide +kernel
theorem dX4_isPossible_383 : decode cX4_isPossible 383 = .ok (.ireturn, 1) := by decide +kernel
theorem dX4_assertsIn_0 : decode cX4_assertsIn 0 = .ok (.iconst 0, 1) := by decide +kernel
theorem dX4_assertsIn_1 : decode cX4_assertsIn 1 = .ok (.istore_n 3, 1) := by decide +kernel
theorem dX4_assertsIn_2 : decode cX4_assertsIn 2 = .ok (.iconst 0, 1) := by decide +kernel
theorem dX4_assertsIn_3 : decode cX4_assertsIn 3 = .ok (.istore 4, 2) := by decide +kernel
theorem dX4_assertsIn_5 : decode cX4_assertsIn 5 = .ok (.iload 4, 2) := by decide +kernel
theorem dX4_assertsIn_7 : decode cX4_assertsIn 7 = .ok (.iconst 4, 1) := by decide +kernel
theorem dX4_assertsIn_8 : decode cX4_assertsIn 8 = .ok (.if_icmp .ge 39, 3) := by decide +kernel
theorem dX4_assertsIn_11 : decode cX4_assertsIn 11 = .ok (.iload_n 3, 1) := by decide +kernel
theorem dX4_assertsIn_12 : decode cX4_assertsIn 12 = .ok (.ifCond .ne 23, 3) := by decide +kernel
theorem dX4_assertsIn_15 : decode cX4_assertsIn 15 = .ok (.aload_n 0, 1) := by decide +kernel
theorem dX4_assertsIn_16 : decode cX4_assertsIn 16 = .ok (.getfield 89, 3) := by decide +kernel
theorem dX4_assertsIn_19 : decode cX4_assertsIn 19 = .ok (.bipush 40, 2) := by decide +kernel
theorem dX4_assertsIn_21 : decode cX4_assertsIn 21 = .ok (.iload_n 1, 1) := by decide +kernel
theorem dX4_assertsIn_22 : decode cX4_assertsIn 22 = .ok (.imul, 1) := by decide +kernel
theorem dX4_assertsIn_23 : decode cX4_assertsIn 23 = .ok (.bipush 10, 2) := by decide +kernel
theorem dX4_assertsIn_25 : decode cX4_assertsIn 25 = .ok (.iload 4, 2) := by decide +kernel
theorem dX4_assertsIn_27 : decode cX4_assertsIn 27 = .ok (.imul, 1) := by decide +kernel
theorem dX4_assertsIn_28 : decode cX4_assertsIn 28 = .ok (.iadd, 1) := by decide +kernel
theorem dX4_assertsIn_29 : decode cX4_assertsIn 29 = .ok (.iload_n 2, 1) := by decide +kernel
theorem dX4_assertsIn_30 : decode cX4_assertsIn 30 = .ok (.iadd, 1) := by decide +kernel
theorem dX4_assertsIn_31 : decode cX4_assertsIn 31 = .ok (.baload, 1) := by decide +kernel
theorem dX4_assertsIn_32 : decode cX4_assertsIn 32 = .ok (.ifCond .eq 7, 3) := by decide +kernel
theorem dX4_assertsIn_35 : decode cX4_assertsIn 35 = .ok (.iconst 1, 1) := by decide +kernel
theorem dX4_assertsIn_36 : decode cX4_assertsIn 36 = .ok (.goto 4, 3) := by decide +kernel
theorem dX4_assertsIn_39 : decode cX4_assertsIn 39 = .ok (.iconst 0, 1) := by decide +kernel
theorem dX4_assertsIn_40 : decode cX4_assertsIn 40 = .ok (.istore_n 3, 1) := by decide +kernel
theorem dX4_assertsIn_41 : decode cX4_assertsIn 41 = .ok (.iinc 4 1, 3) := by decide +kernel
theorem dX4_assertsIn_44 : decode cX4_assertsIn 44 = .ok (.goto (-39), 3) := by decide +kernel
theorem dX4_assertsIn_47 : decode cX4_assertsIn 47 = .ok (.iload_n 3, 1) := by decide +kernel
theorem dX4_assertsIn_48 : decode cX4_assertsIn 48 = .ok (.ireturn, 1) := by decide +kernel
theorem dX4_isPermitted_0 : decode cX4_isPermitted 0 = .ok (.aload_n 0, 1) := by decide +kernel
theorem dX4_isPermitted_1 : decode cX4_isPermitted 1 = .ok (.getfield 124, 3) := by decide +kernel
theorem dX4_isPermitted_4 : decode cX4_isPermitted 4 = .ok (.ifCond .eq 13, 3) := by decide +kernel
theorem dX4_isPermitted_7 : decode cX4_isPermitted 7 = .ok (.iload_n 2, 1) := by decide +kernel
theorem dX4_isPermitted_8 : decode cX4_isPermitted 8 = .ok (.iconst 4, 1) := by decide +kernel
theorem dX4_isPermitted_9 : decode cX4_isPermitted 9 = .ok (.bipush 6, 2) := by decide +kernel
theorem dX4_isPermitted_11 : decode cX4_isPermitted 11 = .ok (.invokestatic 102, 3) := by decide +kernel
theorem dX4_isPermitted_14 : decode cX4_isPermitted 14 = .ok (.ifCond .eq 5, 3) := by decide +kernel
theorem dX4_isPermitted_17 : decode cX4_isPermitted 17 = .ok (.iconst 1, 1) := by decide +kernel
theorem dX4_isPermitted_18 : decode cX4_isPermitted 18 = .ok (.ireturn, 1) := by decide +kernel
theorem dX4_isPermitted_19 : decode cX4_isPermitted 19 = .ok (.aload_n 0, 1) := by decide +kernel
theorem dX4_isPermitted_20 : decode cX4_isPermitted 20 = .ok (.invokevirtual 144, 3) := by decide +kernel
theorem dX4_isPermitted_23 : decode cX4_isPermitted 23 = .ok (.iload_n 1, 1) := by decide +kernel
theorem dX4_isPermitted_24 : decode cX4_isPermitted 24 = .ok (.if_icmp .ne 38, 3) := by decide +kernel
theorem dX4_isPermitted_27 : decode cX4_isPermitted 27 = .ok (.iload_n 2, 1) := by decide +kernel
theorem dX4_isPermitted_28 : decode cX4_isPermitted 28 = .ok (.iconst 2, 1) := by decide +kernel
theorem dX4_isPermitted_29 : decode cX4_isPermitted 29 = .ok (.if_icmp .eq 27, 3) := by decide +kernel
theorem dX4_isPermitted_32 : decode cX4_isPermitted 32 = .ok (.iload_n 2, 1) := by decide +kernel
theorem dX4_isPermitted_33 : decode cX4_isPermitted 33 = .ok (.ifCond .ne 27, 3) := by decide +kernel
theorem dX4_isPermitted_36 : decode cX4_isPermitted 36 = .ok (.iload_n 3, 1) := by decide +kernel
theorem dX4_isPermitted_37 : decode cX4_isPermitted 37 = .ok (.aload_n 0, 1) := by decide +kernel
theorem dX4_isPermitted_38 : decode cX4_isPermitted 38 = .ok (.getfield 53, 3) := by decide +kernel
theorem dX4_isPermitted_41 : decode cX4_isPermitted 41 = .ok (.aload_n 0, 1) := by decide +kernel
theorem dX4_isPermitted_42 : decode cX4_isPermitted 42 = .ok (.getfield 86, 3) := by decide +kernel
theorem dX4_isPermitted_45 : decode cX4_isPermitted 45 = .ok (.aload_n 0, 1) := by decide +kernel
theorem dX4_isPermitted_46 : decode cX4_isPermitted 46 = .ok (.getfield 141, 3) := by decide +kernel
theorem dX4_isPermitted_49 : decode cX4_isPermitted 49 = .ok (.iconst 1, 1) := by decide +kernel
theorem dX4_isPermitted_50 : decode cX4_isPermitted 50 = .ok (.isub, 1) := by decide +kernel
theorem dX4_isPermitted_51 : decode cX4_isPermitted 51 = .ok (.iaload, 1) := by decide +kernel
theorem dX4_isPermitted_52 : decode cX4_isPermitted 52 = .ok (.iaload, 1) := by decide +kernel
theorem dX4_isPermitted_53 : decode cX4_isPermitted 53 = .ok (.if_icmp .ne 7, 3) := by decide +kernel
theorem dX4_isPermitted_56 : decode cX4_isPermitted 56 = .ok (.iconst 1, 1) := by decide +kernel
theorem dX4_isPermitted_57 : decode cX4_isPermitted 57 = .ok (.goto 4, 3) := by decide +kernel
theorem dX4_isPermitted_60 : decode cX4_isPermitted 60 = .ok (.iconst 0, 1) := by decide +kernel
theorem dX4_isPermitted_61 : decode cX4_isPermitted 61 = .ok (.ireturn, 1) := by decide +kernel
theorem dX4_isPermitted_62 : decode cX4_isPermitted 62 = .ok (.iconst 0, 1) := by decide +kernel
theorem dX4_isPermitted_63 : decode cX4_isPermitted 63 = .ok (.istore 4, 2) := by decide +kernel
theorem dX4_isPermitted_65 : decode cX4_isPermitted 65 = .ok (.iconst 0, 1) := by decide +kernel
theorem dX4_isPermitted_66 : decode cX4_isPermitted 66 = .ok (.istore 5, 2) := by decide +kernel
theorem dX4_isPermitted_68 : decode cX4_isPermitted 68 = .ok (.iload 5, 2) := by decide +kernel
theorem dX4_isPermitted_70 : decode cX4_isPermitted 70 = .ok (.bipush 10, 2) := by decide +kernel
theorem dX4_isPermitted_72 : decode cX4_isPermitted 72 = .ok (.if_icmp .ge 31, 3) := by decide +kernel
theorem dX4_isPermitted_75 : decode cX4_isPermitted 75 = .ok (.iload 4, 2) := by decide +kernel
theorem dX4_isPermitted_77 : decode cX4_isPermitted 77 = .ok (.ifCond .ne 13, 3) := by decide +kernel
theorem dX4_isPermitted_80 : decode cX4_isPermitted 80 = .ok (.aload_n 0, 1) := by decide +kernel
theorem dX4_isPermitted_81 : decode cX4_isPermitted 81 = .ok (.iload_n 1, 1) := by decide +kernel
theorem dX4_isPermitted_82 : decode cX4_isPermitted 82 = .ok (.iload 5, 2) := by decide +kernel
theorem dX4_isPermitted_84 : decode cX4_isPermitted 84 = .ok (.invokevirtual 157, 3) := by decide +kernel
theorem dX4_isPermitted_87 : decode cX4_isPermitted 87 = .ok (.ifCond .eq 7, 3) := by decide +kernel
theorem dX4_isPermitted_90 : decode cX4_isPermitted 90 = .ok (.iconst 1, 1) := by decide +kernel
theorem dX4_isPermitted_91 : decode cX4_isPermitted 91 = .ok (.goto 4, 3) := by decide +kernel
theorem dX4_isPermitted_94 : decode cX4_isPermitted 94 = .ok (.iconst 0, 1) := by decide +kernel
theorem dX4_isPermitted_95 : decode cX4_isPermitted 95 = .ok (.istore 4, 2) := by decide +kernel
theorem dX4_isPermitted_97 : decode cX4_isPermitted 97 = .ok (.iinc 5 1, 3) := by decide +kernel
theorem dX4_isPermitted_100 : decode cX4_isPermitted 100 = .ok (.goto (-32), 3) := by decide +kernel
theorem dX4_isPermitted_103 : decode cX4_isPermitted 103 = .ok (.iload 4, 2) := by decide +kernel
theorem dX4_isPermitted_105 : decode cX4_isPermitted 105 = .ok (.ifCond .eq 24, 3) := by decide +kernel
theorem dX4_isPermitted_108 : decode cX4_isPermitted 108 = .ok (.iload_n 2, 1) := by decide +kernel
theorem dX4_isPermitted_109 : decode cX4_isPermitted 109 = .ok (.bipush 9, 2) := by decide +kernel
theorem dX4_isPermitted_111 : decode cX4_isPermitted 111 = .ok (.if_icmp .eq 9, 3) := by decide +kernel
theorem dX4_isPermitted_114 : decode cX4_isPermitted 114 = .ok (.iload_n 2, 1) := by decide +kernel
theorem dX4_isPermitted_115 : decode cX4_isPermitted 115 = .ok (.bipush 10, 2) := by decide +kernel
theorem dX4_isPermitted_117 : decode cX4_isPermitted 117 = .ok (.if_icmp .ne 16, 3) := by decide +kernel
theorem dX4_isPermitted_120 : decode cX4_isPermitted 120 = .ok (.aload_n 0, 1) := by decide +kernel
theorem dX4_isPermitted_121 : decode cX4_isPermitted 121 = .ok (.iload_n 1, 1) := by decide +kernel
theorem dX4_isPermitted_122 : decode cX4_isPermitted 122 = .ok (.iload_n 3, 1) := by decide +kernel
theorem dX4_isPermitted_123 : decode cX4_isPermitted 123 = .ok (.invokevirtual 157, 3) := by decide +kernel
theorem dX4_isPermitted_126 : decode cX4_isPermitted 126 = .ok (.ifCond .eq 7, 3) := by decide +kernel
theorem dX4_isPermitted_129 : decode cX4_isPermitted 129 = .ok (.iconst 1, 1) := by decide +kernel
theorem dX4_isPermitted_130 : decode cX4_isPermitted 130 = .ok (.goto 4, 3) := by decide +kernel
theorem dX4_isPermitted_133 : decode cX4_isPermitted 133 = .ok (.iconst 0, 1) := by decide +kernel
theorem dX4_isPermitted_134 : decode cX4_isPermitted 134 = .ok (.ireturn, 1) := by decide +kernel
theorem dX4_canSay_0 : decode cX4_canSay 0 = .ok (.aload_n 0, 1) := by decide +kernel
theorem dX4_canSay_1 : decode cX4_canSay 1 = .ok (.getfield 83, 3) := by decide +kernel
theorem dX4_canSay_4 : decode cX4_canSay 4 = .ok (.iload_n 1, 1) := by decide +kernel
theorem dX4_canSay_5 : decode cX4_canSay 5 = .ok (.iaload, 1) := by decide +kernel
theorem dX4_canSay_6 : decode cX4_canSay 6 = .ok (.iconst (-1), 1) := by decide +kernel
theorem dX4_canSay_7 : decode cX4_canSay 7 = .ok (.if_icmp .ne 40, 3) := by decide +kernel
theorem dX4_canSay_10 : decode cX4_canSay 10 = .ok (.aload_n 0, 1) := by decide +kernel
theorem dX4_canSay_11 : decode cX4_canSay 11 = .ok (.getfield 131, 3) := by decide +kernel
theorem dX4_canSay_14 : decode cX4_canSay 14 = .ok (.bipush 100, 2) := by decide +kernel
theorem dX4_canSay_16 : decode cX4_canSay 16 = .ok (.if_icmp .ge 31, 3) := by decide +kernel
theorem dX4_canSay_19 : decode cX4_canSay 19 = .ok (.aload_n 0, 1) := by decide +kernel
theorem dX4_canSay_20 : decode cX4_canSay 20 = .ok (.iload_n 1, 1) := by decide +kernel
theorem dX4_canSay_21 : decode cX4_canSay 21 = .ok (.iload_n 2, 1) := by decide +kernel
theorem dX4_canSay_22 : decode cX4_canSay 22 = .ok (.iload_n 3, 1) := by decide +kernel
theorem dX4_canSay_23 : decode cX4_canSay 23 = .ok (.iload 4, 2) := by decide +kernel
theorem dX4_canSay_25 : decode cX4_canSay 25 = .ok (.iload 5, 2) := by decide +kernel
theorem dX4_canSay_27 : decode cX4_canSay 27 = .ok (.invokevirtual 160, 3) := by decide +kernel
theorem dX4_canSay_30 : decode cX4_canSay 30 = .ok (.ifCond .eq 17, 3) := by decide +kernel
theorem dX4_canSay_33 : decode cX4_canSay 33 = .ok (.aload_n 0, 1) := by decide +kernel
theorem dX4_canSay_34 : decode cX4_canSay 34 = .ok (.iload_n 1, 1) := by decide +kernel
theorem dX4_canSay_35 : decode cX4_canSay 35 = .ok (.iload_n 2, 1) := by decide +kernel
theorem dX4_canSay_36 : decode cX4_canSay 36 = .ok (.iload_n 3, 1) := by decide +kernel
theorem dX4_canSay_37 : decode cX4_canSay 37 = .ok (.invokevirtual 164, 3) := by decide +kernel
theorem dX4_canSay_40 : decode cX4_canSay 40 = .ok (.ifCond .eq 7, 3) := by decide +kernel
theorem dX4_canSay_43 : decode cX4_canSay 43 = .ok (.iconst 1, 1) := by decide +kernel
theorem dX4_canSay_44 : decode cX4_canSay 44 = .ok (.goto 4, 3) := by decide +kernel
theorem dX4_canSay_47 : decode cX4_canSay 47 = .ok (.iconst 0, 1) := by decide +kernel
theorem dX4_canSay_48 : decode cX4_canSay 48 = .ok (.ireturn, 1) := by decide +kernel
theorem dX4_can_0 : decode cX4_can 0 = .ok (.aload_n 0, 1) := by decide +kernel
theorem dX4_can_1 : decode cX4_can 1 = .ok (.iload_n 1, 1) := by decide +kernel
theorem dX4_can_2 : decode cX4_can 2 = .ok (.invokestatic 106, 3) := by decide +kernel
theorem dX4_can_5 : decode cX4_can 5 = .ok (.iload_n 1, 1) := by decide +kernel
theorem dX4_can_6 : decode cX4_can 6 = .ok (.invokestatic 106, 3) := by decide +kernel
theorem dX4_can_9 : decode cX4_can 9 = .ok (.ifCond .eq 23, 3) := by decide +kernel
theorem dX4_can_12 : decode cX4_can 12 = .ok (.aload_n 0, 1) := by decide +kernel
theorem dX4_can_13 : decode cX4_can 13 = .ok (.iload_n 1, 1) := by decide +kernel
theorem dX4_can_14 : decode cX4_can 14 = .ok (.iload_n 2, 1) := by decide +kernel
theorem dX4_can_15 : decode cX4_can 15 = .ok (.iload_n 3, 1) := by decide +kernel
theorem dX4_can_16 : decode cX4_can 16 = .ok (.iload 4, 2) := by decide +kernel
theorem dX4_can_18 : decode cX4_can 18 = .ok (.iload 5, 2) := by decide +kernel
theorem dX4_can_20 : decode cX4_can 20 = .ok (.iload 6, 2) := by decide +kernel
theorem dX4_can_22 : decode cX4_can 22 = .ok (.invokevirtual 167, 3) := by decide +kernel
theorem dX4_can_25 : decode cX4_can 25 = .ok (.ifCond .eq 7, 3) := by decide +kernel
theorem dX4_can_28 : decode cX4_can 28 = .ok (.iconst 1, 1) := by decide +kernel
theorem dX4_can_29 : decode cX4_can 29 = .ok (.goto 4, 3) := by decide +kernel
theorem dX4_can_32 : decode cX4_can 32 = .ok (.iconst 0, 1) := by decide +kernel
theorem dX4_can_33 : decode cX4_can 33 = .ok (.iconst 1, 1) := by decide +kernel
theorem dX4_can_34 : decode cX4_can 34 = .ok (.invokevirtual 110, 3) := by decide +kernel
theorem dX4_can_37 : decode cX4_can 37 = .ok (.ifCond .eq 21, 3) := by decide +kernel
theorem dX4_can_40 : decode cX4_can 40 = .ok (.aload_n 0, 1) := by decide +kernel
theorem dX4_can_41 : decode cX4_can 41 = .ok (.iload_n 1, 1) := by decide +kernel
theorem dX4_can_42 : decode cX4_can 42 = .ok (.iload_n 2, 1) := by decide +kernel
theorem dX4_can_43 : decode cX4_can 43 = .ok (.iload_n 3, 1) := by decide +kernel
theorem dX4_can_44 : decode cX4_can 44 = .ok (.iload 4, 2) := by decide +kernel
theorem dX4_can_46 : decode cX4_can 46 = .ok (.iload 5, 2) := by decide +kernel
theorem dX4_can_48 : decode cX4_can 48 = .ok (.invokevirtual 171, 3) := by decide +kernel
theorem dX4_can_51 : decode cX4_can 51 = .ok (.ifCond .eq 7, 3) := by decide +kernel
theorem dX4_can_54 : decode cX4_can 54 = .ok (.iconst 1, 1) := by decide +kernel
theorem dX4_can_55 : decode cX4_can 55 = .ok (.goto 4, 3) := by decide +kernel
theorem dX4_can_58 : decode cX4_can 58 = .ok (.iconst 0, 1) := by decide +kernel
theorem dX4_can_59 : decode cX4_can 59 = .ok (.ireturn, 1) := by decide +kernel
theorem dX4_say_0 : decode cX4_say 0 = .ok (.iload_n 1, 1) := by decide +kernel
theorem dX4_say_1 : decode cX4_say 1 = .ok (.invokestatic 106, 3) := by decide +kernel
theorem dX4_say_4 : decode cX4_say 4 = .ok (.ifCond .eq 23, 3) := by decide +kernel
theorem dX4_say_7 : decode cX4_say 7 = .ok (.aload_n 0, 1) := by decide +kernel
theorem dX4_say_8 : decode cX4_say 8 = .ok (.iload_n 1, 1) := by decide +kernel
theorem dX4_say_9 : decode cX4_say 9 = .ok (.iload_n 2, 1) := by decide +kernel
theorem dX4_say_10 : decode cX4_say 10 = .ok (.iload_n 3, 1) := by decide +kernel
theorem dX4_say_11 : decode cX4_say 11 = .ok (.iload 4, 2) := by decide +kernel
theorem dX4_say_13 : decode cX4_say 13 = .ok (.iload 5, 2) := by decide +kernel
theorem dX4_say_15 : decode cX4_say 15 = .ok (.iload 6, 2) := by decide +kernel
theorem dX4_say_17 : decode cX4_say 17 = .ok (.invokevirtual 167, 3) := by decide +kernel
theorem dX4_say_20 : decode cX4_say 20 = .ok (.ifCond .eq 7, 3) := by decide +kernel
theorem dX4_say_23 : decode cX4_say 23 = .ok (.iconst 1, 1) := by decide +kernel
theorem dX4_say_24 : decode cX4_say 24 = .ok (.goto 4, 3) := by decide +kernel
theorem dX4_say_27 : decode cX4_say 27 = .ok (.iconst 0, 1) := by decide +kernel
theorem dX4_say_28 : decode cX4_say 28 = .ok (.istore 7, 2) := by decide +kernel
theorem dX4_say_30 : decode cX4_say 30 = .ok (.aload_n 0, 1) := by decide +kernel
theorem dX4_say_31 : decode cX4_say 31 = .ok (.iload_n 1, 1) := by decide +kernel
theorem dX4_say_32 : decode cX4_say 32 = .ok (.invokestatic 106, 3) := by decide +kernel
theorem dX4_say_35 : decode cX4_say 35 = .ok (.iload 7, 2) := by decide +kernel
theorem dX4_say_37 : decode cX4_say 37 = .ok (.iload 7, 2) := by decide +kernel
theorem dX4_say_39 : decode cX4_say 39 = .ok (.ifCond .eq 21, 3) := by decide +kernel
theorem dX4_say_42 : decode cX4_say 42 = .ok (.aload_n 0, 1) := by decide +kernel
theorem dX4_say_43 : decode cX4_say 43 = .ok (.iload_n 1, 1) := by decide +kernel
theorem dX4_say_44 : decode cX4_say 44 = .ok (.iload_n 2, 1) := by decide +kernel
theorem dX4_say_45 : decode cX4_say 45 = .ok (.iload_n 3, 1) := by decide +kernel
theorem dX4_say_46 : decode cX4_say 46 = .ok (.iload 4, 2) := by decide +kernel
theorem dX4_say_48 : decode cX4_say 48 = .ok (.iload 5, 2) := by decide +kernel
theorem dX4_say_50 : decode cX4_say 50 = .ok (.invokevirtual 171, 3) := by decide +kernel
theorem dX4_say_53 : decode cX4_say 53 = .ok (.ifCond .eq 7, 3) := by decide +kernel
theorem dX4_say_56 : decode cX4_say 56 = .ok (.iconst 1, 1) := by decide +kernel
theorem dX4_say_57 : decode cX4_say 57 = .ok (.goto 4, 3) := by decide +kernel
theorem dX4_say_60 : decode cX4_say 60 = .ok (.iconst 0, 1) := by decide +kernel
theorem dX4_say_61 : decode cX4_say 61 = .ok (.invokevirtual 110, 3) := by decide +kernel
theorem dX4_say_64 : decode cX4_say 64 = .ok (.ifCond .ne 5, 3) := by decide +kernel
theorem dX4_say_67 : decode cX4_say 67 = .ok (.iconst 0, 1) := by decide +kernel
theorem dX4_say_68 : decode cX4_say 68 = .ok (.ireturn, 1) := by decide +kernel
theorem dX4_say_69 : decode cX4_say 69 = .ok (.aload_n 0, 1) := by decide +kernel
theorem dX4_say_70 : decode cX4_say 70 = .ok (.getfield 47, 3) := by decide +kernel
theorem dX4_say_73 : decode cX4_say 73 = .ok (.aload_n 0, 1) := by decide +kernel
theorem dX4_say_74 : decode cX4_say 74 = .ok (.getfield 131, 3) := by decide +kernel
theorem dX4_say_77 : decode cX4_say 77 = .ok (.iload_n 1, 1) := by decide +kernel
theorem dX4_say_78 : decode cX4_say 78 = .ok (.iastore, 1) := by decide +kernel
theorem dX4_say_79 : decode cX4_say 79 = .ok (.aload_n 0, 1) := by decide +kernel
theorem dX4_say_80 : decode cX4_say 80 = .ok (.getfield 50, 3) := by decide +kernel
theorem dX4_say_83 : decode cX4_say 83 = .ok (.aload_n 0, 1) := by decide +kernel
theorem dX4_say_84 : decode cX4_say 84 = .ok (.getfield 131, 3) := by decide +kernel
theorem dX4_say_87 : decode cX4_say 87 = .ok (.iload_n 2, 1) := by decide +kernel
theorem dX4_say_88 : decode cX4_say 88 = .ok (.iastore, 1) := by decide +kernel
theorem dX4_say_89 : decode cX4_say 89 = .ok (.aload_n 0, 1) := by decide +kernel
theorem dX4_say_90 : decode cX4_say 90 = .ok (.getfield 53, 3) := by decide +kernel
theorem dX4_say_93 : decode cX4_say 93 = .ok (.aload_n 0, 1) := by decide +kernel
theorem dX4_say_94 : decode cX4_say 94 = .ok (.getfield 131, 3) := by decide +kernel
theorem dX4_say_97 : decode cX4_say 97 = .ok (.iload_n 3, 1) := by decide +kernel
theorem dX4_say_98 : decode cX4_say 98 = .ok (.iastore, 1) := by decide +kernel
theorem dX4_say_99 : decode cX4_say 99 = .ok (.aload_n 0, 1) := by decide +kernel
theorem dX4_say_100 : decode cX4_say 100 = .ok (.getfield 56, 3) := by decide +kernel
theorem dX4_say_103 : decode cX4_say 103 = .ok (.aload_n 0, 1) := by decide +kernel
theorem dX4_say_104 : decode cX4_say 104 = .ok (.getfield 131, 3) := by decide +kernel
theorem dX4_say_107 : decode cX4_say 107 = .ok (.iload 4, 2) := by decide +kernel
theorem dX4_say_109 : decode cX4_say 109 = .ok (.iastore, 1) := by decide +kernel
theorem dX4_say_110 : decode cX4_say 110 = .ok (.aload_n 0, 1) := by decide +kernel
theorem dX4_say_111 : decode cX4_say 111 = .ok (.getfield 59, 3) := by decide +kernel
theorem dX4_say_114 : decode cX4_say 114 = .ok (.aload_n 0, 1) := by decide +kernel
theorem dX4_say_115 : decode cX4_say 115 = .ok (.getfield 131, 3) := by decide +kernel
theorem dX4_say_118 : decode cX4_say 118 = .ok (.iload 5, 2) := by decide +kernel
theorem dX4_say_120 : decode cX4_say 120 = .ok (.iastore, 1) := by decide +kernel
theorem dX4_say_121 : decode cX4_say 121 = .ok (.aload_n 0, 1) := by decide +kernel
theorem dX4_say_122 : decode cX4_say 122 = .ok (.getfield 62, 3) := by decide +kernel
theorem dX4_say_125 : decode cX4_say 125 = .ok (.aload_n 0, 1) := by decide +kernel
theorem dX4_say_126 : decode cX4_say 126 = .ok (.getfield 131, 3) := by decide +kernel
theorem dX4_say_129 : decode cX4_say 129 = .ok (.iload 6, 2) := by decide +kernel
theorem dX4_say_131 : decode cX4_say 131 = .ok (.iastore, 1) := by decide +kernel
theorem dX4_say_132 : decode cX4_say 132 = .ok (.aload_n 0, 1) := by decide +kernel
theorem dX4_say_133 : decode cX4_say 133 = .ok (.getfield 68, 3) := by decide +kernel
theorem dX4_say_136 : decode cX4_say 136 = .ok (.aload_n 0, 1) := by decide +kernel
theorem dX4_say_137 : decode cX4_say 137 = .ok (.getfield 131, 3) := by decide +kernel
theorem dX4_say_140 : decode cX4_say 140 = .ok (.iconst (-1), 1) := by decide +kernel
theorem dX4_say_141 : decode cX4_say 141 = .ok (.iastore, 1) := by decide +kernel
theorem dX4_say_142 : decode cX4_say 142 = .ok (.aload_n 0, 1) := by decide +kernel
theorem dX4_say_143 : decode cX4_say 143 = .ok (.getfield 71, 3) := by decide +kernel
theorem dX4_say_146 : decode cX4_say 146 = .ok (.aload_n 0, 1) := by decide +kernel
theorem dX4_say_147 : decode cX4_say 147 = .ok (.getfield 131, 3) := by decide +kernel
theorem dX4_say_150 : decode cX4_say 150 = .ok (.aload_n 0, 1) := by decide +kernel
theorem dX4_say_151 : decode cX4_say 151 = .ok (.getfield 16, 3) := by decide +kernel
theorem dX4_say_154 : decode cX4_say 154 = .ok (.iload_n 1, 1) := by decide +kernel
theorem dX4_say_155 : decode cX4_say 155 = .ok (.iaload, 1) := by decide +kernel
theorem dX4_say_156 : decode cX4_say 156 = .ok (.iastore, 1) := by decide +kernel
theorem dX4_say_157 : decode cX4_say 157 = .ok (.aload_n 0, 1) := by decide +kernel
theorem dX4_say_158 : decode cX4_say 158 = .ok (.getfield 83, 3) := by decide +kernel
theorem dX4_say_161 : decode cX4_say 161 = .ok (.iload_n 1, 1) := by decide +kernel
theorem dX4_say_162 : decode cX4_say 162 = .ok (.aload_n 0, 1) := by decide +kernel
theorem dX4_say_163 : decode cX4_say 163 = .ok (.getfield 131, 3) := by decide +kernel
theorem dX4_say_166 : decode cX4_say 166 = .ok (.iastore, 1) := by decide +kernel
theorem dX4_say_167 : decode cX4_say 167 = .ok (.aload_n 0, 1) := by decide +kernel
theorem dX4_say_168 : decode cX4_say 168 = .ok (.dup, 1) := by decide +kernel
theorem dX4_say_169 : decode cX4_say 169 = .ok (.getfield 131, 3) := by decide +kernel
theorem dX4_say_172 : decode cX4_say 172 = .ok (.iconst 1, 1) := by decide +kernel
theorem dX4_say_173 : decode cX4_say 173 = .ok (.iadd, 1) := by decide +kernel
theorem dX4_say_174 : decode cX4_say 174 = .ok (.putfield 131, 3) := by decide +kernel
theorem dX4_say_177 : decode cX4_say 177 = .ok (.aload_n 0, 1) := by decide +kernel
theorem dX4_say_178 : decode cX4_say 178 = .ok (.getfield 131, 3) := by decide +kernel
theorem dX4_say_181 : decode cX4_say 181 = .ok (.iconst 1, 1) := by decide +kernel
theorem dX4_say_182 : decode cX4_say 182 = .ok (.isub, 1) := by decide +kernel
theorem dX4_say_183 : decode cX4_say 183 = .ok (.ireturn, 1) := by decide +kernel
theorem dX4_isDeaf_0 : decode cX4_isDeaf 0 = .ok (.aload_n 0, 1) := by decide +kernel
theorem dX4_isDeaf_1 : decode cX4_isDeaf 1 = .ok (.getfield 121, 3) := by decide +kernel
theorem dX4_isDeaf_4 : decode cX4_isDeaf 4 = .ok (.aload_n 0, 1) := by decide +kernel
theorem dX4_isDeaf_5 : decode cX4_isDeaf 5 = .ok (.getfield 23, 3) := by decide +kernel
theorem dX4_isDeaf_8 : decode cX4_isDeaf 8 = .ok (.iload_n 1, 1) := by decide +kernel
theorem dX4_isDeaf_9 : decode cX4_isDeaf 9 = .ok (.iaload, 1) := by decide +kernel
theorem dX4_isDeaf_10 : decode cX4_isDeaf 10 = .ok (.if_icmp .ge 7, 3) := by decide +kernel
theorem dX4_isDeaf_13 : decode cX4_isDeaf 13 = .ok (.iconst 1, 1) := by decide +kernel
theorem dX4_isDeaf_14 : decode cX4_isDeaf 14 = .ok (.goto 4, 3) := by decide +kernel
theorem dX4_isDeaf_17 : decode cX4_isDeaf 17 = .ok (.iconst 0, 1) := by decide +kernel
theorem dX4_isDeaf_18 : decode cX4_isDeaf 18 = .ok (.ireturn, 1) := by decide +kernel
theorem dX4_hasInterpreter_0 : decode cX4_hasInterpreter 0 = .ok (.iconst 0, 1) := by decide +kernel
theorem dX4_hasInterpreter_1 : decode cX4_hasInterpreter 1 = .ok (.istore_n 3, 1) := by decide +kernel
theorem dX4_hasInterpreter_2 : decode cX4_hasInterpreter 2 = .ok (.iconst 0, 1) := by decide +kernel
theorem dX4_hasInterpreter_3 : decode cX4_hasInterpreter 3 = .ok (.istore 4, 2) := by decide +kernel
theorem dX4_hasInterpreter_5 : decode cX4_hasInterpreter 5 = .ok (.iload 4, 2) := by decide +kernel
theorem dX4_hasInterpreter_7 : decode cX4_hasInterpreter 7 = .ok (.iconst 4, 1) := by decide +kernel
theorem dX4_hasInterpreter_8 : decode cX4_hasInterpreter 8 = .ok (.if_icmp .ge 94, 3) := by decide +kernel
theorem dX4_hasInterpreter_11 : decode cX4_hasInterpreter 11 = .ok (.iload_n 3, 1) := by decide +kernel
theorem dX4_hasInterpreter_12 : decode cX4_hasInterpreter 12 = .ok (.ifCond .ne 78, 3) := by decide +kernel
theorem dX4_hasInterpreter_15 : decode cX4_hasInterpreter 15 = .ok (.iload 4, 2) := by decide +kernel
theorem dX4_hasInterpreter_17 : decode cX4_hasInterpreter 17 = .ok (.iload_n 2, 1) := by decide +kernel
theorem dX4_hasInterpreter_18 : decode cX4_hasInterpreter 18 = .ok (.if_icmp .eq 76, 3) := by decide +kernel
theorem dX4_hasInterpreter_21 : decode cX4_hasInterpreter 21 = .ok (.aload_n 0, 1) := by decide +kernel
theorem dX4_hasInterpreter_22 : decode cX4_hasInterpreter 22 = .ok (.getfield 59, 3) := by decide +kernel
theorem dX4_hasInterpreter_25 : decode cX4_hasInterpreter 25 = .ok (.iload_n 1, 1) := by decide +kernel
theorem dX4_hasInterpreter_26 : decode cX4_hasInterpreter 26 = .ok (.iaload, 1) := by decide +kernel
theorem dX4_hasInterpreter_27 : decode cX4_hasInterpreter 27 = .ok (.iload 4, 2) := by decide +kernel
theorem dX4_hasInterpreter_29 : decode cX4_hasInterpreter 29 = .ok (.invokestatic 114, 3) := by decide +kernel
theorem dX4_hasInterpreter_32 : decode cX4_hasInterpreter 32 = .ok (.ifCond .eq 62, 3) := by decide +kernel
theorem dX4_hasInterpreter_35 : decode cX4_hasInterpreter 35 = .ok (.aload_n 0, 1) := by decide +kernel
theorem dX4_hasInterpreter_36 : decode cX4_hasInterpreter 36 = .ok (.getfield 19, 3) := by decide +kernel
theorem dX4_hasInterpreter_39 : decode cX4_hasInterpreter 39 = .ok (.iload 4, 2) := by decide +kernel
theorem dX4_hasInterpreter_41 : decode cX4_hasInterpreter 41 = .ok (.baload, 1) := by decide +kernel
theorem dX4_hasInterpreter_42 : decode cX4_hasInterpreter 42 = .ok (.ifCond .eq 52, 3) := by decide +kernel
theorem dX4_hasInterpreter_45 : decode cX4_hasInterpreter 45 = .ok (.aload_n 0, 1) := by decide +kernel
theorem dX4_hasInterpreter_46 : decode cX4_hasInterpreter 46 = .ok (.iload 4, 2) := by decide +kernel
theorem dX4_hasInterpreter_48 : decode cX4_hasInterpreter 48 = .ok (.invokevirtual 174, 3) := by decide +kernel
theorem dX4_hasInterpreter_51 : decode cX4_hasInterpreter 51 = .ok (.ifCond .ne 43, 3) := by decide +kernel
theorem dX4_hasInterpreter_54 : decode cX4_hasInterpreter 54 = .ok (.aload_n 0, 1) := by decide +kernel
theorem dX4_hasInterpreter_55 : decode cX4_hasInterpreter 55 = .ok (.getfield 13, 3) := by decide +kernel
theorem dX4_hasInterpreter_58 : decode cX4_hasInterpreter 58 = .ok (.iload 4, 2) := by decide +kernel
theorem dX4_hasInterpreter_60 : decode cX4_hasInterpreter 60 = .ok (.iaload, 1) := by decide +kernel
theorem dX4_hasInterpreter_61 : decode cX4_hasInterpreter 61 = .ok (.aload_n 0, 1) := by decide +kernel
theorem dX4_hasInterpreter_62 : decode cX4_hasInterpreter 62 = .ok (.getfield 71, 3) := by decide +kernel
theorem dX4_hasInterpreter_65 : decode cX4_hasInterpreter 65 = .ok (.iload_n 1, 1) := by decide +kernel
theorem dX4_hasInterpreter_66 : decode cX4_hasInterpreter 66 = .ok (.iaload, 1) := by decide +kernel
theorem dX4_hasInterpreter_67 : decode cX4_hasInterpreter 67 = .ok (.invokestatic 114, 3) := by decide +kernel
theorem dX4_hasInterpreter_70 : decode cX4_hasInterpreter 70 = .ok (.ifCond .eq 24, 3) := by decide +kernel
theorem dX4_hasInterpreter_73 : decode cX4_hasInterpreter 73 = .ok (.aload_n 0, 1) := by decide +kernel
theorem dX4_hasInterpreter_74 : decode cX4_hasInterpreter 74 = .ok (.getfield 13, 3) := by decide +kernel
theorem dX4_hasInterpreter_77 : decode cX4_hasInterpreter 77 = .ok (.iload 4, 2) := by decide +kernel
theorem dX4_hasInterpreter_79 : decode cX4_hasInterpreter 79 = .ok (.iaload, 1) := by decide +kernel
theorem dX4_hasInterpreter_80 : decode cX4_hasInterpreter 80 = .ok (.aload_n 0, 1) := by decide +kernel
theorem dX4_hasInterpreter_81 : decode cX4_hasInterpreter 81 = .ok (.getfield 13, 3) := by decide +kernel
theorem dX4_hasInterpreter_84 : decode cX4_hasInterpreter 84 = .ok (.iload_n 2, 1) := by decide +kernel
theorem dX4_hasInterpreter_85 : decode cX4_hasInterpreter 85 = .ok (.iaload, 1) := by decide +kernel
theorem dX4_hasInterpreter_86 : decode cX4_hasInterpreter 86 = .ok (.iand, 1) := by decide +kernel
theorem dX4_hasInterpreter_87 : decode cX4_hasInterpreter 87 = .ok (.ifCond .eq 7, 3) := by decide +kernel
theorem dX4_hasInterpreter_90 : decode cX4_hasInterpreter 90 = .ok (.iconst 1, 1) := by decide +kernel
theorem dX4_hasInterpreter_91 : decode cX4_hasInterpreter 91 = .ok (.goto 4, 3) := by decide +kernel
theorem dX4_hasInterpreter_94 : decode cX4_hasInterpreter 94 = .ok (.iconst 0, 1) := by decide +kernel
theorem dX4_hasInterpreter_95 : decode cX4_hasInterpreter 95 = .ok (.istore_n 3, 1) := by decide +kernel
theorem dX4_hasInterpreter_96 : decode cX4_hasInterpreter 96 = .ok (.iinc 4 1, 3) := by decide +kernel
theorem dX4_hasInterpreter_99 : decode cX4_hasInterpreter 99 = .ok (.goto (-94), 3) := by decide +kernel
theorem dX4_hasInterpreter_102 : decode cX4_hasInterpreter 102 = .ok (.iload_n 3, 1) := by decide +kernel
theorem dX4_hasInterpreter_103 : decode cX4_hasInterpreter 103 = .ok (.ireturn, 1) := by decide +kernel
theorem dX4_delivers_0 : decode cX4_delivers 0 = .ok (.iconst 0, 1) := by decide +kernel
theorem dX4_delivers_1 : decode cX4_delivers 1 = .ok (.istore_n 2, 1) := by decide +kernel
theorem dX4_delivers_2 : decode cX4_delivers 2 = .ok (.iload_n 2, 1) := by decide +kernel
theorem dX4_delivers_3 : decode cX4_delivers 3 = .ok (.iconst 4, 1) := by decide +kernel
theorem dX4_delivers_4 : decode cX4_delivers 4 = .ok (.if_icmp .ge 125, 3) := by decide +kernel
theorem dX4_delivers_7 : decode cX4_delivers 7 = .ok (.iconst 4, 1) := by decide +kernel
theorem dX4_delivers_8 : decode cX4_delivers 8 = .ok (.iload_n 1, 1) := by decide +kernel
theorem dX4_delivers_9 : decode cX4_delivers 9 = .ok (.imul, 1) := by decide +kernel
theorem dX4_delivers_10 : decode cX4_delivers 10 = .ok (.iload_n 2, 1) := by decide +kernel
theorem dX4_delivers_11 : decode cX4_delivers 11 = .ok (.iadd, 1) := by decide +kernel
theorem dX4_delivers_12 : decode cX4_delivers 12 = .ok (.istore_n 3, 1) := by decide +kernel
theorem dX4_delivers_13 : decode cX4_delivers 13 = .ok (.aload_n 0, 1) := by decide +kernel
theorem dX4_delivers_14 : decode cX4_delivers 14 = .ok (.getfield 59, 3) := by decide +kernel
theorem dX4_delivers_17 : decode cX4_delivers 17 = .ok (.iload_n 1, 1) := by decide +kernel
theorem dX4_delivers_18 : decode cX4_delivers 18 = .ok (.iaload, 1) := by decide +kernel
theorem dX4_delivers_19 : decode cX4_delivers 19 = .ok (.iload_n 2, 1) := by decide +kernel
theorem dX4_delivers_20 : decode cX4_delivers 20 = .ok (.invokestatic 114, 3) := by decide +kernel
theorem dX4_delivers_23 : decode cX4_delivers 23 = .ok (.ifCond .eq 100, 3) := by decide +kernel
theorem dX4_delivers_26 : decode cX4_delivers 26 = .ok (.aload_n 0, 1) := by decide +kernel
theorem dX4_delivers_27 : decode cX4_delivers 27 = .ok (.getfield 77, 3) := by decide +kernel
theorem dX4_delivers_30 : decode cX4_delivers 30 = .ok (.iload_n 3, 1) := by decide +kernel
theorem dX4_delivers_31 : decode cX4_delivers 31 = .ok (.iaload, 1) := by decide +kernel
theorem dX4_delivers_32 : decode cX4_delivers 32 = .ok (.iconst 2, 1) := by decide +kernel
theorem dX4_delivers_33 : decode cX4_delivers 33 = .ok (.if_icmp .ge 90, 3) := by decide +kernel
theorem dX4_delivers_36 : decode cX4_delivers 36 = .ok (.aload_n 0, 1) := by decide +kernel
theorem dX4_delivers_37 : decode cX4_delivers 37 = .ok (.getfield 13, 3) := by decide +kernel
theorem dX4_delivers_40 : decode cX4_delivers 40 = .ok (.iload_n 2, 1) := by decide +kernel
theorem dX4_delivers_41 : decode cX4_delivers 41 = .ok (.iaload, 1) := by decide +kernel
theorem dX4_delivers_42 : decode cX4_delivers 42 = .ok (.aload_n 0, 1) := by decide +kernel
theorem dX4_delivers_43 : decode cX4_delivers 43 = .ok (.getfield 71, 3) := by decide +kernel
theorem dX4_delivers_46 : decode cX4_delivers 46 = .ok (.iload_n 1, 1) := by decide +kernel
theorem dX4_delivers_47 : decode cX4_delivers 47 = .ok (.iaload, 1) := by decide +kernel
theorem dX4_delivers_48 : decode cX4_delivers 48 = .ok (.invokestatic 114, 3) := by decide +kernel
theorem dX4_delivers_51 : decode cX4_delivers 51 = .ok (.istore 4, 2) := by decide +kernel
theorem dX4_delivers_53 : decode cX4_delivers 53 = .ok (.aload_n 0, 1) := by decide +kernel
theorem dX4_delivers_54 : decode cX4_delivers 54 = .ok (.getfield 77, 3) := by decide +kernel
theorem dX4_delivers_57 : decode cX4_delivers 57 = .ok (.iload_n 3, 1) := by decide +kernel
theorem dX4_delivers_58 : decode cX4_delivers 58 = .ok (.aload_n 0, 1) := by decide +kernel
theorem dX4_delivers_59 : decode cX4_delivers 59 = .ok (.iload_n 2, 1) := by decide +kernel
theorem dX4_delivers_60 : decode cX4_delivers 60 = .ok (.invokevirtual 174, 3) := by decide +kernel
theorem dX4_delivers_63 : decode cX4_delivers 63 = .ok (.ifCond .eq 7, 3) := by decide +kernel
theorem dX4_delivers_66 : decode cX4_delivers 66 = .ok (.iconst 1, 1) := by decide +kernel
theorem dX4_delivers_67 : decode cX4_delivers 67 = .ok (.goto 26, 3) := by decide +kernel
theorem dX4_delivers_70 : decode cX4_delivers 70 = .ok (.iload 4, 2) := by decide +kernel
theorem dX4_delivers_72 : decode cX4_delivers 72 = .ok (.ifCond .eq 7, 3) := by decide +kernel
theorem dX4_delivers_75 : decode cX4_delivers 75 = .ok (.iconst 3, 1) := by decide +kernel
theorem dX4_delivers_76 : decode cX4_delivers 76 = .ok (.goto 17, 3) := by decide +kernel
theorem dX4_delivers_79 : decode cX4_delivers 79 = .ok (.aload_n 0, 1) := by decide +kernel
theorem dX4_delivers_80 : decode cX4_delivers 80 = .ok (.iload_n 1, 1) := by decide +kernel
theorem dX4_delivers_81 : decode cX4_delivers 81 = .ok (.iload_n 2, 1) := by decide +kernel
theorem dX4_delivers_82 : decode cX4_delivers 82 = .ok (.invokevirtual 177, 3) := by decide +kernel
theorem dX4_delivers_85 : decode cX4_delivers 85 = .ok (.ifCond .eq 7, 3) := by decide +kernel
theorem dX4_delivers_88 : decode cX4_delivers 88 = .ok (.iconst 2, 1) := by decide +kernel
theorem dX4_delivers_89 : decode cX4_delivers 89 = .ok (.goto 4, 3) := by decide +kernel
theorem dX4_delivers_92 : decode cX4_delivers 92 = .ok (.iconst 1, 1) := by decide +kernel
theorem dX4_delivers_93 : decode cX4_delivers 93 = .ok (.iastore, 1) := by decide +kernel
theorem dX4_delivers_94 : decode cX4_delivers 94 = .ok (.aload_n 0, 1) := by decide +kernel
theorem dX4_delivers_95 : decode cX4_delivers 95 = .ok (.getfield 80, 3) := by decide +kernel
theorem dX4_delivers_98 : decode cX4_delivers 98 = .ok (.iload_n 3, 1) := by decide +kernel
theorem dX4_delivers_99 : decode cX4_delivers 99 = .ok (.aload_n 0, 1) := by decide +kernel
theorem dX4_delivers_100 : decode cX4_delivers 100 = .ok (.getfield 77, 3) := by decide +kernel
theorem dX4_delivers_103 : decode cX4_delivers 103 = .ok (.iload_n 3, 1) := by decide +kernel
theorem dX4_delivers_104 : decode cX4_delivers 104 = .ok (.iaload, 1) := by decide +kernel
theorem dX4_delivers_105 : decode cX4_delivers 105 = .ok (.iconst 2, 1) := by decide +kernel
theorem dX4_delivers_106 : decode cX4_delivers 106 = .ok (.if_icmp .ne 12, 3) := by decide +kernel
theorem dX4_delivers_109 : decode cX4_delivers 109 = .ok (.aload_n 0, 1) := by decide +kernel
theorem dX4_delivers_110 : decode cX4_delivers 110 = .ok (.getfield 121, 3) := by decide +kernel
theorem dX4_delivers_113 : decode cX4_delivers 113 = .ok (.iconst 2, 1) := by decide +kernel
theorem dX4_delivers_114 : decode cX4_delivers 114 = .ok (.iadd, 1) := by decide +kernel
theorem dX4_delivers_115 : decode cX4_delivers 115 = .ok (.goto 7, 3) := by decide +kernel
theorem dX4_delivers_118 : decode cX4_delivers 118 = .ok (.aload_n 0, 1) := by decide +kernel
theorem dX4_delivers_119 : decode cX4_delivers 119 = .ok (.getfield 121, 3) := by decide +kernel
theorem dX4_delivers_122 : decode cX4_delivers 122 = .ok (.iastore, 1) := by decide +kernel
theorem dX4_delivers_123 : decode cX4_delivers 123 = .ok (.iinc 2 1, 3) := by decide +kernel
theorem dX4_delivers_126 : decode cX4_delivers 126 = .ok (.goto (-124), 3) := by decide +kernel
theorem dX4_delivers_129 : decode cX4_delivers 129 = .ok (.return_, 1) := by decide +kernel
theorem dX4_comesLate_0 : decode cX4_comesLate 0 = .ok (.iconst 0, 1) := by decide +kernel
theorem dX4_comesLate_1 : decode cX4_comesLate 1 = .ok (.istore_n 1, 1) := by decide +kernel
theorem dX4_comesLate_2 : decode cX4_comesLate 2 = .ok (.iload_n 1, 1) := by decide +kernel
theorem dX4_comesLate_3 : decode cX4_comesLate 3 = .ok (.iconst 4, 1) := by decide +kernel
theorem dX4_comesLate_4 : decode cX4_comesLate 4 = .ok (.aload_n 0, 1) := by decide +kernel
theorem dX4_comesLate_5 : decode cX4_comesLate 5 = .ok (.getfield 131, 3) := by decide +kernel
theorem dX4_comesLate_8 : decode cX4_comesLate 8 = .ok (.imul, 1) := by decide +kernel
theorem dX4_comesLate_9 : decode cX4_comesLate 9 = .ok (.if_icmp .ge 63, 3) := by decide +kernel
theorem dX4_comesLate_12 : decode cX4_comesLate 12 = .ok (.aload_n 0, 1) := by decide +kernel
theorem dX4_comesLate_13 : decode cX4_comesLate 13 = .ok (.getfield 77, 3) := by decide +kernel
theorem dX4_comesLate_16 : decode cX4_comesLate 16 = .ok (.iload_n 1, 1) := by decide +kernel
theorem dX4_comesLate_17 : decode cX4_comesLate 17 = .ok (.iaload, 1) := by decide +kernel
theorem dX4_comesLate_18 : decode cX4_comesLate 18 = .ok (.iconst 2, 1) := by decide +kernel
theorem dX4_comesLate_19 : decode cX4_comesLate 19 = .ok (.if_icmp .ne 47, 3) := by decide +kernel
theorem dX4_comesLate_22 : decode cX4_comesLate 22 = .ok (.aload_n 0, 1) := by decide +kernel
theorem dX4_comesLate_23 : decode cX4_comesLate 23 = .ok (.getfield 80, 3) := by decide +kernel
theorem dX4_comesLate_26 : decode cX4_comesLate 26 = .ok (.iload_n 1, 1) := by decide +kernel
theorem dX4_comesLate_27 : decode cX4_comesLate 27 = .ok (.iaload, 1) := by decide +kernel
theorem dX4_comesLate_28 : decode cX4_comesLate 28 = .ok (.aload_n 0, 1) := by decide +kernel
theorem dX4_comesLate_29 : decode cX4_comesLate 29 = .ok (.getfield 121, 3) := by decide +kernel
theorem dX4_comesLate_32 : decode cX4_comesLate 32 = .ok (.if_icmp .gt 34, 3) := by decide +kernel
theorem dX4_comesLate_35 : decode cX4_comesLate 35 = .ok (.aload_n 0, 1) := by decide +kernel
theorem dX4_comesLate_36 : decode cX4_comesLate 36 = .ok (.getfield 77, 3) := by decide +kernel
theorem dX4_comesLate_39 : decode cX4_comesLate 39 = .ok (.iload_n 1, 1) := by decide +kernel
theorem dX4_comesLate_40 : decode cX4_comesLate 40 = .ok (.aload_n 0, 1) := by decide +kernel
theorem dX4_comesLate_41 : decode cX4_comesLate 41 = .ok (.iload_n 1, 1) := by decide +kernel
theorem dX4_comesLate_42 : decode cX4_comesLate 42 = .ok (.iconst 4, 1) := by decide +kernel
theorem dX4_comesLate_43 : decode cX4_comesLate 43 = .ok (.irem, 1) := by decide +kernel
theorem dX4_comesLate_44 : decode cX4_comesLate 44 = .ok (.invokevirtual 174, 3) := by decide +kernel
theorem dX4_comesLate_47 : decode cX4_comesLate 47 = .ok (.ifCond .eq 7, 3) := by decide +kernel
theorem dX4_comesLate_50 : decode cX4_comesLate 50 = .ok (.iconst 1, 1) := by decide +kernel
theorem dX4_comesLate_51 : decode cX4_comesLate 51 = .ok (.goto 4, 3) := by decide +kernel
theorem dX4_comesLate_54 : decode cX4_comesLate 54 = .ok (.iconst 3, 1) := by decide +kernel
theorem dX4_comesLate_55 : decode cX4_comesLate 55 = .ok (.iastore, 1) := by decide +kernel
theorem dX4_comesLate_56 : decode cX4_comesLate 56 = .ok (.aload_n 0, 1) := by decide +kernel
theorem dX4_comesLate_57 : decode cX4_comesLate 57 = .ok (.getfield 80, 3) := by decide +kernel
theorem dX4_comesLate_60 : decode cX4_comesLate 60 = .ok (.iload_n 1, 1) := by decide +kernel
theorem dX4_comesLate_61 : decode cX4_comesLate 61 = .ok (.aload_n 0, 1) := by decide +kernel
theorem dX4_comesLate_62 : decode cX4_comesLate 62 = .ok (.getfield 121, 3) := by decide +kernel
theorem dX4_comesLate_65 : decode cX4_comesLate 65 = .ok (.iastore, 1) := by decide +kernel
theorem dX4_comesLate_66 : decode cX4_comesLate 66 = .ok (.iinc 1 1, 3) := by decide +kernel
theorem dX4_comesLate_69 : decode cX4_comesLate 69 = .ok (.goto (-67), 3) := by decide +kernel
theorem dX4_comesLate_72 : decode cX4_comesLate 72 = .ok (.return_, 1) := by decide +kernel
theorem dX4_commits_0 : decode cX4_commits 0 = .ok (.aload_n 0, 1) := by decide +kernel
theorem dX4_commits_1 : decode cX4_commits 1 = .ok (.getfield 29, 3) := by decide +kernel
theorem dX4_commits_4 : decode cX4_commits 4 = .ok (.bipush 10, 2) := by decide +kernel
theorem dX4_commits_6 : decode cX4_commits 6 = .ok (.iload_n 1, 1) := by decide +kernel
theorem dX4_commits_7 : decode cX4_commits 7 = .ok (.imul, 1) := by decide +kernel
theorem dX4_commits_8 : decode cX4_commits 8 = .ok (.iload_n 2, 1) := by decide +kernel
theorem dX4_commits_9 : decode cX4_commits 9 = .ok (.iadd, 1) := by decide +kernel
theorem dX4_commits_10 : decode cX4_commits 10 = .ok (.iload_n 3, 1) := by decide +kernel
theorem dX4_commits_11 : decode cX4_commits 11 = .ok (.iastore, 1) := by decide +kernel
theorem dX4_commits_12 : decode cX4_commits 12 = .ok (.aload_n 0, 1) := by decide +kernel
theorem dX4_commits_13 : decode cX4_commits 13 = .ok (.getfield 32, 3) := by decide +kernel
theorem dX4_commits_16 : decode cX4_commits 16 = .ok (.bipush 10, 2) := by decide +kernel
theorem dX4_commits_18 : decode cX4_commits 18 = .ok (.iload_n 1, 1) := by decide +kernel
theorem dX4_commits_19 : decode cX4_commits 19 = .ok (.imul, 1) := by decide +kernel
theorem dX4_commits_20 : decode cX4_commits 20 = .ok (.iload_n 2, 1) := by decide +kernel
theorem dX4_commits_21 : decode cX4_commits 21 = .ok (.iadd, 1) := by decide +kernel
theorem dX4_commits_22 : decode cX4_commits 22 = .ok (.iload_n 3, 1) := by decide +kernel
theorem dX4_commits_23 : decode cX4_commits 23 = .ok (.ifCond .ne 7, 3) := by decide +kernel
theorem dX4_commits_26 : decode cX4_commits 26 = .ok (.iconst (-1), 1) := by decide +kernel
theorem dX4_commits_27 : decode cX4_commits 27 = .ok (.goto 5, 3) := by decide +kernel
theorem dX4_commits_30 : decode cX4_commits 30 = .ok (.iload 4, 2) := by decide +kernel
theorem dX4_commits_32 : decode cX4_commits 32 = .ok (.iastore, 1) := by decide +kernel
theorem dX4_commits_33 : decode cX4_commits 33 = .ok (.aload_n 0, 1) := by decide +kernel
theorem dX4_commits_34 : decode cX4_commits 34 = .ok (.invokevirtual 180, 3) := by decide +kernel
theorem dX4_commits_37 : decode cX4_commits 37 = .ok (.return_, 1) := by decide +kernel
theorem dX4_says_0 : decode cX4_says 0 = .ok (.aload_n 0, 1) := by decide +kernel
theorem dX4_says_1 : decode cX4_says 1 = .ok (.aload_n 0, 1) := by decide +kernel
theorem dX4_says_2 : decode cX4_says 2 = .ok (.getfield 47, 3) := by decide +kernel
theorem dX4_says_5 : decode cX4_says 5 = .ok (.iload_n 1, 1) := by decide +kernel
theorem dX4_says_6 : decode cX4_says 6 = .ok (.iaload, 1) := by decide +kernel
theorem dX4_says_7 : decode cX4_says 7 = .ok (.iload_n 2, 1) := by decide +kernel
theorem dX4_says_8 : decode cX4_says 8 = .ok (.iload_n 3, 1) := by decide +kernel
theorem dX4_says_9 : decode cX4_says 9 = .ok (.iload_n 1, 1) := by decide +kernel
theorem dX4_says_10 : decode cX4_says 10 = .ok (.invokevirtual 183, 3) := by decide +kernel
theorem dX4_says_13 : decode cX4_says 13 = .ok (.aload_n 0, 1) := by decide +kernel
theorem dX4_says_14 : decode cX4_says 14 = .ok (.getfield 41, 3) := by decide +kernel
theorem dX4_says_17 : decode cX4_says 17 = .ok (.aload_n 0, 1) := by decide +kernel
theorem dX4_says_18 : decode cX4_says 18 = .ok (.getfield 47, 3) := by decide +kernel
theorem dX4_says_21 : decode cX4_says 21 = .ok (.iload_n 1, 1) := by decide +kernel
theorem dX4_says_22 : decode cX4_says 22 = .ok (.iaload, 1) := by decide +kernel
theorem dX4_says_23 : decode cX4_says 23 = .ok (.dup2, 1) := by decide +kernel
theorem dX4_says_24 : decode cX4_says 24 = .ok (.iaload, 1) := by decide +kernel
theorem dX4_says_25 : decode cX4_says 25 = .ok (.aload_n 0, 1) := by decide +kernel
theorem dX4_says_26 : decode cX4_says 26 = .ok (.getfield 26, 3) := by decide +kernel
theorem dX4_says_29 : decode cX4_says 29 = .ok (.bipush 10, 2) := by decide +kernel
theorem dX4_says_31 : decode cX4_says 31 = .ok (.aload_n 0, 1) := by decide +kernel
theorem dX4_says_32 : decode cX4_says 32 = .ok (.getfield 47, 3) := by decide +kernel
theorem dX4_says_35 : decode cX4_says 35 = .ok (.iload_n 1, 1) := by decide +kernel
theorem dX4_says_36 : decode cX4_says 36 = .ok (.iaload, 1) := by decide +kernel
theorem dX4_says_37 : decode cX4_says 37 = .ok (.imul, 1) := by decide +kernel
theorem dX4_says_38 : decode cX4_says 38 = .ok (.iload_n 2, 1) := by decide +kernel
theorem dX4_says_39 : decode cX4_says 39 = .ok (.iadd, 1) := by decide +kernel
theorem dX4_says_40 : decode cX4_says 40 = .ok (.iaload, 1) := by decide +kernel
theorem dX4_says_41 : decode cX4_says 41 = .ok (.iload_n 3, 1) := by decide +kernel
theorem dX4_says_42 : decode cX4_says 42 = .ok (.invokestatic 187, 3) := by decide +kernel
theorem dX4_says_45 : decode cX4_says 45 = .ok (.if_icmp .ne 7, 3) := by decide +kernel
theorem dX4_says_48 : decode cX4_says 48 = .ok (.iconst 1, 1) := by decide +kernel
theorem dX4_says_49 : decode cX4_says 49 = .ok (.goto 4, 3) := by decide +kernel
theorem dX4_says_52 : decode cX4_says 52 = .ok (.iconst 0, 1) := by decide +kernel
theorem dX4_says_53 : decode cX4_says 53 = .ok (.iadd, 1) := by decide +kernel
theorem dX4_says_54 : decode cX4_says 54 = .ok (.iastore, 1) := by decide +kernel
theorem dX4_says_55 : decode cX4_says 55 = .ok (.return_, 1) := by decide +kernel
theorem dX4_endsQuarrels_0 : decode cX4_endsQuarrels 0 = .ok (.iconst 0, 1) := by decide +kernel
theorem dX4_endsQuarrels_1 : decode cX4_endsQuarrels 1 = .ok (.istore_n 1, 1) := by decide +kernel
theorem dX4_endsQuarrels_2 : decode cX4_endsQuarrels 2 = .ok (.iload_n 1, 1) := by decide +kernel
theorem dX4_endsQuarrels_3 : decode cX4_endsQuarrels 3 = .ok (.sipush 160, 3) := by decide +kernel
theorem dX4_endsQuarrels_6 : decode cX4_endsQuarrels 6 = .ok (.if_icmp .ge 79, 3) := by decide +kernel
theorem dX4_endsQuarrels_9 : decode cX4_endsQuarrels 9 = .ok (.aload_n 0, 1) := by decide +kernel
theorem dX4_endsQuarrels_10 : decode cX4_endsQuarrels 10 = .ok (.getfield 29, 3) := by decide +kernel
theorem dX4_endsQuarrels_13 : decode cX4_endsQuarrels 13 = .ok (.bipush 10, 2) := by decide +kernel
theorem dX4_endsQuarrels_15 : decode cX4_endsQuarrels 15 = .ok (.iload_n 1, 1) := by decide +kernel
theorem dX4_endsQuarrels_16 : decode cX4_endsQuarrels 16 = .ok (.bipush 40, 2) := by decide +kernel
theorem dX4_endsQuarrels_18 : decode cX4_endsQuarrels 18 = .ok (.idiv, 1) := by decide +kernel
theorem dX4_endsQuarrels_19 : decode cX4_endsQuarrels 19 = .ok (.imul, 1) := by decide +kernel
theorem dX4_endsQuarrels_20 : decode cX4_endsQuarrels 20 = .ok (.iload_n 1, 1) := by decide +kernel
theorem dX4_endsQuarrels_21 : decode cX4_endsQuarrels 21 = .ok (.bipush 10, 2) := by decide +kernel
theorem dX4_endsQuarrels_23 : decode cX4_endsQuarrels 23 = .ok (.irem, 1) := by decide +kernel
theorem dX4_endsQuarrels_24 : decode cX4_endsQuarrels 24 = .ok (.iadd, 1) := by decide +kernel
theorem dX4_endsQuarrels_25 : decode cX4_endsQuarrels 25 = .ok (.iaload, 1) := by decide +kernel
theorem dX4_endsQuarrels_26 : decode cX4_endsQuarrels 26 = .ok (.istore_n 2, 1) := by decide +kernel
theorem dX4_endsQuarrels_27 : decode cX4_endsQuarrels 27 = .ok (.aload_n 0, 1) := by decide +kernel
theorem dX4_endsQuarrels_28 : decode cX4_endsQuarrels 28 = .ok (.getfield 29, 3) := by decide +kernel
theorem dX4_endsQuarrels_31 : decode cX4_endsQuarrels 31 = .ok (.bipush 10, 2) := by decide +kernel
theorem dX4_endsQuarrels_33 : decode cX4_endsQuarrels 33 = .ok (.iload_n 1, 1) := by decide +kernel
theorem dX4_endsQuarrels_34 : decode cX4_endsQuarrels 34 = .ok (.bipush 10, 2) := by decide +kernel
theorem dX4_endsQuarrels_36 : decode cX4_endsQuarrels 36 = .ok (.idiv, 1) := by decide +kernel
theorem dX4_endsQuarrels_37 : decode cX4_endsQuarrels 37 = .ok (.iconst 4, 1) := by decide +kernel
theorem dX4_endsQuarrels_38 : decode cX4_endsQuarrels 38 = .ok (.irem, 1) := by decide +kernel
theorem dX4_endsQuarrels_39 : decode cX4_endsQuarrels 39 = .ok (.imul, 1) := by decide +kernel
theorem dX4_endsQuarrels_40 : decode cX4_endsQuarrels 40 = .ok (.iload_n 1, 1) := by decide +kernel
theorem dX4_endsQuarrels_41 : decode cX4_endsQuarrels 41 = .ok (.bipush 10, 2) := by decide +kernel
theorem dX4_endsQuarrels_43 : decode cX4_endsQuarrels 43 = .ok (.irem, 1) := by decide +kernel
theorem dX4_endsQuarrels_44 : decode cX4_endsQuarrels 44 = .ok (.iadd, 1) := by decide +kernel
theorem dX4_endsQuarrels_45 : decode cX4_endsQuarrels 45 = .ok (.iaload, 1) := by decide +kernel
theorem dX4_endsQuarrels_46 : decode cX4_endsQuarrels 46 = .ok (.istore_n 3, 1) := by decide +kernel
theorem dX4_endsQuarrels_47 : decode cX4_endsQuarrels 47 = .ok (.aload_n 0, 1) := by decide +kernel
theorem dX4_endsQuarrels_48 : decode cX4_endsQuarrels 48 = .ok (.getfield 89, 3) := by decide +kernel
theorem dX4_endsQuarrels_51 : decode cX4_endsQuarrels 51 = .ok (.iload_n 1, 1) := by decide +kernel
theorem dX4_endsQuarrels_52 : decode cX4_endsQuarrels 52 = .ok (.aload_n 0, 1) := by decide +kernel
theorem dX4_endsQuarrels_53 : decode cX4_endsQuarrels 53 = .ok (.getfield 89, 3) := by decide +kernel
theorem dX4_endsQuarrels_56 : decode cX4_endsQuarrels 56 = .ok (.iload_n 1, 1) := by decide +kernel
theorem dX4_endsQuarrels_57 : decode cX4_endsQuarrels 57 = .ok (.baload, 1) := by decide +kernel
theorem dX4_endsQuarrels_58 : decode cX4_endsQuarrels 58 = .ok (.ifCond .eq 19, 3) := by decide +kernel
theorem dX4_endsQuarrels_61 : decode cX4_endsQuarrels 61 = .ok (.iload_n 2, 1) := by decide +kernel
theorem dX4_endsQuarrels_62 : decode cX4_endsQuarrels 62 = .ok (.ifCond .eq 15, 3) := by decide +kernel
theorem dX4_endsQuarrels_65 : decode cX4_endsQuarrels 65 = .ok (.iload_n 3, 1) := by decide +kernel
theorem dX4_endsQuarrels_66 : decode cX4_endsQuarrels 66 = .ok (.iload_n 2, 1) := by decide +kernel
theorem dX4_endsQuarrels_67 : decode cX4_endsQuarrels 67 = .ok (.invokestatic 187, 3) := by decide +kernel
theorem dX4_endsQuarrels_70 : decode cX4_endsQuarrels 70 = .ok (.if_icmp .ne 7, 3) := by decide +kernel
theorem dX4_endsQuarrels_73 : decode cX4_endsQuarrels 73 = .ok (.iconst 1, 1) := by decide +kernel
theorem dX4_endsQuarrels_74 : decode cX4_endsQuarrels 74 = .ok (.goto 4, 3) := by decide +kernel
theorem dX4_endsQuarrels_77 : decode cX4_endsQuarrels 77 = .ok (.iconst 0, 1) := by decide +kernel
theorem dX4_endsQuarrels_78 : decode cX4_endsQuarrels 78 = .ok (.bastore, 1) := by decide +kernel
theorem dX4_endsQuarrels_79 : decode cX4_endsQuarrels 79 = .ok (.iinc 1 1, 3) := by decide +kernel
theorem dX4_endsQuarrels_82 : decode cX4_endsQuarrels 82 = .ok (.goto (-80), 3) := by decide +kernel
theorem dX4_endsQuarrels_85 : decode cX4_endsQuarrels 85 = .ok (.return_, 1) := by decide +kernel
theorem dX4_isChallenged_0 : decode cX4_isChallenged 0 = .ok (.iconst 0, 1) := by decide +kernel
theorem dX4_isChallenged_1 : decode cX4_isChallenged 1 = .ok (.istore_n 2, 1) := by decide +kernel
theorem dX4_isChallenged_2 : decode cX4_isChallenged 2 = .ok (.iconst 0, 1) := by decide +kernel
theorem dX4_isChallenged_3 : decode cX4_isChallenged 3 = .ok (.istore_n 3, 1) := by decide +kernel
theorem dX4_isChallenged_4 : decode cX4_isChallenged 4 = .ok (.iload_n 3, 1) := by decide +kernel
theorem dX4_isChallenged_5 : decode cX4_isChallenged 5 = .ok (.iconst 4, 1) := by decide +kernel
theorem dX4_isChallenged_6 : decode cX4_isChallenged 6 = .ok (.if_icmp .ge 52, 3) := by decide +kernel
theorem dX4_isChallenged_9 : decode cX4_isChallenged 9 = .ok (.iload_n 2, 1) := by decide +kernel
theorem dX4_isChallenged_10 : decode cX4_isChallenged 10 = .ok (.ifCond .ne 36, 3) := by decide +kernel
theorem dX4_isChallenged_13 : decode cX4_isChallenged 13 = .ok (.aload_n 0, 1) := by decide +kernel
theorem dX4_isChallenged_14 : decode cX4_isChallenged 14 = .ok (.getfield 59, 3) := by decide +kernel
theorem dX4_isChallenged_17 : decode cX4_isChallenged 17 = .ok (.iload_n 1, 1) := by decide +kernel
theorem dX4_isChallenged_18 : decode cX4_isChallenged 18 = .ok (.iaload, 1) := by decide +kernel
theorem dX4_isChallenged_19 : decode cX4_isChallenged 19 = .ok (.iload_n 3, 1) := by decide +kernel
theorem dX4_isChallenged_20 : decode cX4_isChallenged 20 = .ok (.invokestatic 114, 3) := by decide +kernel
theorem dX4_isChallenged_23 : decode cX4_isChallenged 23 = .ok (.ifCond .eq 27, 3) := by decide +kernel
theorem dX4_isChallenged_26 : decode cX4_isChallenged 26 = .ok (.aload_n 0, 1) := by decide +kernel
theorem dX4_isChallenged_27 : decode cX4_isChallenged 27 = .ok (.getfield 29, 3) := by decide +kernel
theorem dX4_isChallenged_30 : decode cX4_isChallenged 30 = .ok (.bipush 10, 2) := by decide +kernel
theorem dX4_isChallenged_32 : decode cX4_isChallenged 32 = .ok (.iload_n 3, 1) := by decide +kernel
theorem dX4_isChallenged_33 : decode cX4_isChallenged 33 = .ok (.imul, 1) := by decide +kernel
theorem dX4_isChallenged_34 : decode cX4_isChallenged 34 = .ok (.aload_n 0, 1) := by decide +kernel
theorem dX4_isChallenged_35 : decode cX4_isChallenged 35 = .ok (.getfield 62, 3) := by decide +kernel
theorem dX4_isChallenged_38 : decode cX4_isChallenged 38 = .ok (.iload_n 1, 1) := by decide +kernel
theorem dX4_isChallenged_39 : decode cX4_isChallenged 39 = .ok (.iaload, 1) := by decide +kernel
theorem dX4_isChallenged_40 : decode cX4_isChallenged 40 = .ok (.iadd, 1) := by decide +kernel
theorem dX4_isChallenged_41 : decode cX4_isChallenged 41 = .ok (.iaload, 1) := by decide +kernel
theorem dX4_isChallenged_42 : decode cX4_isChallenged 42 = .ok (.iconst 2, 1) := by decide +kernel
theorem dX4_isChallenged_43 : decode cX4_isChallenged 43 = .ok (.if_icmp .ne 7, 3) := by decide +kernel
theorem dX4_isChallenged_46 : decode cX4_isChallenged 46 = .ok (.iconst 1, 1) := by decide +kernel
theorem dX4_isChallenged_47 : decode cX4_isChallenged 47 = .ok (.goto 4, 3) := by decide +kernel
theorem dX4_isChallenged_50 : decode cX4_isChallenged 50 = .ok (.iconst 0, 1) := by decide +kernel
theorem dX4_isChallenged_51 : decode cX4_isChallenged 51 = .ok (.istore_n 2, 1) := by decide +kernel
theorem dX4_isChallenged_52 : decode cX4_isChallenged 52 = .ok (.iinc 3 1, 3) := by decide +kernel
theorem dX4_isChallenged_55 : decode cX4_isChallenged 55 = .ok (.goto (-51), 3) := by decide +kernel
theorem dX4_isChallenged_58 : decode cX4_isChallenged 58 = .ok (.iload_n 2, 1) := by decide +kernel
theorem dX4_isChallenged_59 : decode cX4_isChallenged 59 = .ok (.ireturn, 1) := by decide +kernel
theorem dX4_rightTo_0 : decode cX4_rightTo 0 = .ok (.aload_n 0, 1) := by decide +kernel
theorem dX4_rightTo_1 : decode cX4_rightTo 1 = .ok (.iload_n 1, 1) := by decide +kernel
theorem dX4_rightTo_2 : decode cX4_rightTo 2 = .ok (.putfield 95, 3) := by decide +kernel
theorem dX4_rightTo_5 : decode cX4_rightTo 5 = .ok (.aload_n 0, 1) := by decide +kernel
theorem dX4_rightTo_6 : decode cX4_rightTo 6 = .ok (.aload_n 0, 1) := by decide +kernel
theorem dX4_rightTo_7 : decode cX4_rightTo 7 = .ok (.getfield 121, 3) := by decide +kernel
theorem dX4_rightTo_10 : decode cX4_rightTo 10 = .ok (.iconst 2, 1) := by decide +kernel
theorem dX4_rightTo_11 : decode cX4_rightTo 11 = .ok (.iadd, 1) := by decide +kernel
theorem dX4_rightTo_12 : decode cX4_rightTo 12 = .ok (.putfield 190, 3) := by decide +kernel
theorem dX4_rightTo_15 : decode cX4_rightTo 15 = .ok (.return_, 1) := by decide +kernel
theorem dX4_carries_0 : decode cX4_carries 0 = .ok (.aload_n 0, 1) := by decide +kernel
theorem dX4_carries_1 : decode cX4_carries 1 = .ok (.getfield 50, 3) := by decide +kernel
theorem dX4_carries_4 : decode cX4_carries 4 = .ok (.iload_n 1, 1) := by decide +kernel
theorem dX4_carries_5 : decode cX4_carries 5 = .ok (.iaload, 1) := by decide +kernel
theorem dX4_carries_6 : decode cX4_carries 6 = .ok (.istore_n 2, 1) := by decide +kernel
theorem dX4_carries_7 : decode cX4_carries 7 = .ok (.aload_n 0, 1) := by decide +kernel
theorem dX4_carries_8 : decode cX4_carries 8 = .ok (.getfield 47, 3) := by decide +kernel
theorem dX4_carries_11 : decode cX4_carries 11 = .ok (.iload_n 1, 1) := by decide +kernel
theorem dX4_carries_12 : decode cX4_carries 12 = .ok (.iaload, 1) := by decide +kernel
theorem dX4_carries_13 : decode cX4_carries 13 = .ok (.istore_n 3, 1) := by decide +kernel
theorem dX4_carries_14 : decode cX4_carries 14 = .ok (.aload_n 0, 1) := by decide +kernel
theorem dX4_carries_15 : decode cX4_carries 15 = .ok (.iload_n 3, 1) := by decide +kernel
theorem dX4_carries_16 : decode cX4_carries 16 = .ok (.iload_n 2, 1) := by decide +kernel
theorem dX4_carries_17 : decode cX4_carries 17 = .ok (.aload_n 0, 1) := by decide +kernel
theorem dX4_carries_18 : decode cX4_carries 18 = .ok (.getfield 53, 3) := by decide +kernel
theorem dX4_carries_21 : decode cX4_carries 21 = .ok (.iload_n 1, 1) := by decide +kernel
theorem dX4_carries_22 : decode cX4_carries 22 = .ok (.iaload, 1) := by decide +kernel
theorem dX4_carries_23 : decode cX4_carries 23 = .ok (.aload_n 0, 1) := by decide +kernel
theorem dX4_carries_24 : decode cX4_carries 24 = .ok (.getfield 56, 3) := by decide +kernel
theorem dX4_carries_27 : decode cX4_carries 27 = .ok (.iload_n 1, 1) := by decide +kernel
theorem dX4_carries_28 : decode cX4_carries 28 = .ok (.iaload, 1) := by decide +kernel
theorem dX4_carries_29 : decode cX4_carries 29 = .ok (.aload_n 0, 1) := by decide +kernel
theorem dX4_carries_30 : decode cX4_carries 30 = .ok (.getfield 59, 3) := by decide +kernel
theorem dX4_carries_33 : decode cX4_carries 33 = .ok (.iload_n 1, 1) := by decide +kernel
theorem dX4_carries_34 : decode cX4_carries 34 = .ok (.iaload, 1) := by decide +kernel
theorem dX4_carries_35 : decode cX4_carries 35 = .ok (.invokevirtual 160, 3) := by decide +kernel
theorem dX4_carries_38 : decode cX4_carries 38 = .ok (.ifCond .eq 18, 3) := by decide +kernel
theorem dX4_carries_41 : decode cX4_carries 41 = .ok (.aload_n 0, 1) := by decide +kernel
theorem dX4_carries_42 : decode cX4_carries 42 = .ok (.iload_n 3, 1) := by decide +kernel
theorem dX4_carries_43 : decode cX4_carries 43 = .ok (.iload_n 2, 1) := by decide +kernel
theorem dX4_carries_44 : decode cX4_carries 44 = .ok (.aload_n 0, 1) := by decide +kernel
theorem dX4_carries_45 : decode cX4_carries 45 = .ok (.getfield 53, 3) := by decide +kernel
theorem dX4_carries_48 : decode cX4_carries 48 = .ok (.iload_n 1, 1) := by decide +kernel
theorem dX4_carries_49 : decode cX4_carries 49 = .ok (.iaload, 1) := by decide +kernel
theorem dX4_carries_50 : decode cX4_carries 50 = .ok (.invokevirtual 164, 3) := by decide +kernel
theorem dX4_carries_53 : decode cX4_carries 53 = .ok (.ifCond .ne 11, 3) := by decide +kernel
theorem dX4_carries_56 : decode cX4_carries 56 = .ok (.aload_n 0, 1) := by decide +kernel
theorem dX4_carries_57 : decode cX4_carries 57 = .ok (.getfield 65, 3) := by decide +kernel
theorem dX4_carries_60 : decode cX4_carries 60 = .ok (.iload_n 1, 1) := by decide +kernel
theorem dX4_carries_61 : decode cX4_carries 61 = .ok (.iconst 4, 1) := by decide +kernel
theorem dX4_carries_62 : decode cX4_carries 62 = .ok (.iastore, 1) := by decide +kernel
theorem dX4_carries_63 : decode cX4_carries 63 = .ok (.return_, 1) := by decide +kernel
theorem dX4_carries_64 : decode cX4_carries 64 = .ok (.aload_n 0, 1) := by decide +kernel
theorem dX4_carries_65 : decode cX4_carries 65 = .ok (.iload_n 1, 1) := by decide +kernel
theorem dX4_carries_66 : decode cX4_carries 66 = .ok (.invokevirtual 193, 3) := by decide +kernel
theorem dX4_carries_69 : decode cX4_carries 69 = .ok (.aload_n 0, 1) := by decide +kernel
theorem dX4_carries_70 : decode cX4_carries 70 = .ok (.getfield 68, 3) := by decide +kernel
theorem dX4_carries_73 : decode cX4_carries 73 = .ok (.iload_n 1, 1) := by decide +kernel
theorem dX4_carries_74 : decode cX4_carries 74 = .ok (.aload_n 0, 1) := by decide +kernel
theorem dX4_carries_75 : decode cX4_carries 75 = .ok (.getfield 121, 3) := by decide +kernel
theorem dX4_carries_78 : decode cX4_carries 78 = .ok (.iastore, 1) := by decide +kernel
theorem dX4_carries_79 : decode cX4_carries 79 = .ok (.aload_n 0, 1) := by decide +kernel
theorem dX4_carries_80 : decode cX4_carries 80 = .ok (.iload_n 2, 1) := by decide +kernel
theorem dX4_carries_81 : decode cX4_carries 81 = .ok (.iconst 4, 1) := by decide +kernel
theorem dX4_carries_82 : decode cX4_carries 82 = .ok (.if_icmp .ne 10, 3) := by decide +kernel
theorem dX4_carries_85 : decode cX4_carries 85 = .ok (.aload_n 0, 1) := by decide +kernel
theorem dX4_carries_86 : decode cX4_carries 86 = .ok (.getfield 95, 3) := by decide +kernel
theorem dX4_carries_89 : decode cX4_carries 89 = .ok (.goto 4, 3) := by decide +kernel
theorem dX4_carries_92 : decode cX4_carries 92 = .ok (.iconst (-1), 1) := by decide +kernel
theorem dX4_carries_93 : decode cX4_carries 93 = .ok (.putfield 95, 3) := by decide +kernel
theorem dX4_carries_96 : decode cX4_carries 96 = .ok (.iload_n 2, 1) := by decide +kernel
theorem dX4_carries_97 : decode cX4_carries 97 = .ok (.iconst 1, 1) := by decide +kernel
theorem dX4_carries_98 : decode cX4_carries 98 = .ok (.if_icmp .gt 17, 3) := by decide +kernel
theorem dX4_carries_101 : decode cX4_carries 101 = .ok (.aload_n 0, 1) := by decide +kernel
theorem dX4_carries_102 : decode cX4_carries 102 = .ok (.getfield 62, 3) := by decide +kernel
theorem dX4_carries_105 : decode cX4_carries 105 = .ok (.iload_n 1, 1) := by decide +kernel
theorem dX4_carries_106 : decode cX4_carries 106 = .ok (.iaload, 1) := by decide +kernel
theorem dX4_carries_107 : decode cX4_carries 107 = .ok (.iconst (-1), 1) := by decide +kernel
theorem dX4_carries_108 : decode cX4_carries 108 = .ok (.if_icmp .eq 7, 3) := by decide +kernel
theorem dX4_carries_111 : decode cX4_carries 111 = .ok (.iconst 1, 1) := by decide +kernel
theorem dX4_carries_112 : decode cX4_carries 112 = .ok (.goto 4, 3) := by decide +kernel
theorem dX4_carries_115 : decode cX4_carries 115 = .ok (.iconst 0, 1) := by decide +kernel
theorem dX4_carries_116 : decode cX4_carries 116 = .ok (.istore 4, 2) := by decide +kernel
theorem dX4_carries_118 : decode cX4_carries 118 = .ok (.iload 4, 2) := by decide +kernel
theorem dX4_carries_120 : decode cX4_carries 120 = .ok (.ifCond .eq 19, 3) := by decide +kernel
theorem dX4_carries_123 : decode cX4_carries 123 = .ok (.aload_n 0, 1) := by decide +kernel
theorem dX4_carries_124 : decode cX4_carries 124 = .ok (.iload_n 1, 1) := by decide +kernel
theorem dX4_carries_125 : decode cX4_carries 125 = .ok (.invokevirtual 197, 3) := by decide +kernel
theorem dX4_carries_128 : decode cX4_carries 128 = .ok (.ifCond .eq 11, 3) := by decide +kernel
theorem dX4_carries_131 : decode cX4_carries 131 = .ok (.aload_n 0, 1) := by decide +kernel
theorem dX4_carries_132 : decode cX4_carries 132 = .ok (.getfield 65, 3) := by decide +kernel
theorem dX4_carries_135 : decode cX4_carries 135 = .ok (.iload_n 1, 1) := by decide +kernel
theorem dX4_carries_136 : decode cX4_carries 136 = .ok (.iconst 3, 1) := by decide +kernel
theorem dX4_carries_137 : decode cX4_carries 137 = .ok (.iastore, 1) := by decide +kernel
theorem dX4_carries_138 : decode cX4_carries 138 = .ok (.return_, 1) := by decide +kernel
theorem dX4_carries_139 : decode cX4_carries 139 = .ok (.iload 4, 2) := by decide +kernel
theorem dX4_carries_141 : decode cX4_carries 141 = .ok (.ifCond .eq 35, 3) := by decide +kernel
theorem dX4_carries_144 : decode cX4_carries 144 = .ok (.aload_n 0, 1) := by decide +kernel
theorem dX4_carries_145 : decode cX4_carries 145 = .ok (.getfield 29, 3) := by decide +kernel
theorem dX4_carries_148 : decode cX4_carries 148 = .ok (.bipush 10, 2) := by decide +kernel
theorem dX4_carries_150 : decode cX4_carries 150 = .ok (.iload_n 3, 1) := by decide +kernel
theorem dX4_carries_151 : decode cX4_carries 151 = .ok (.imul, 1) := by decide +kernel
theorem dX4_carries_152 : decode cX4_carries 152 = .ok (.aload_n 0, 1) := by decide +kernel
theorem dX4_carries_153 : decode cX4_carries 153 = .ok (.getfield 62, 3) := by decide +kernel
theorem dX4_carries_156 : decode cX4_carries 156 = .ok (.iload_n 1, 1) := by decide +kernel
theorem dX4_carries_157 : decode cX4_carries 157 = .ok (.iaload, 1) := by decide +kernel
theorem dX4_carries_158 : decode cX4_carries 158 = .ok (.iadd, 1) := by decide +kernel
theorem dX4_carries_159 : decode cX4_carries 159 = .ok (.iaload, 1) := by decide +kernel
theorem dX4_carries_160 : decode cX4_carries 160 = .ok (.iconst 1, 1) := by decide +kernel
theorem dX4_carries_161 : decode cX4_carries 161 = .ok (.if_icmp .eq 15, 3) := by decide +kernel
theorem dX4_carries_164 : decode cX4_carries 164 = .ok (.aload_n 0, 1) := by decide +kernel
theorem dX4_carries_165 : decode cX4_carries 165 = .ok (.iload_n 1, 1) := by decide +kernel
theorem dX4_carries_166 : decode cX4_carries 166 = .ok (.aload_n 0, 1) := by decide +kernel
theorem dX4_carries_167 : decode cX4_carries 167 = .ok (.getfield 62, 3) := by decide +kernel
theorem dX4_carries_170 : decode cX4_carries 170 = .ok (.iload_n 1, 1) := by decide +kernel
theorem dX4_carries_171 : decode cX4_carries 171 = .ok (.iaload, 1) := by decide +kernel
theorem dX4_carries_172 : decode cX4_carries 172 = .ok (.iconst 1, 1) := by decide +kernel
theorem dX4_carries_173 : decode cX4_carries 173 = .ok (.invokevirtual 200, 3) := by decide +kernel
theorem dX4_carries_176 : decode cX4_carries 176 = .ok (.aload_n 0, 1) := by decide +kernel
theorem dX4_carries_177 : decode cX4_carries 177 = .ok (.getfield 65, 3) := by decide +kernel
theorem dX4_carries_180 : decode cX4_carries 180 = .ok (.iload_n 1, 1) := by decide +kernel
theorem dX4_carries_181 : decode cX4_carries 181 = .ok (.iconst 1, 1) := by decide +kernel
theorem dX4_carries_182 : decode cX4_carries 182 = .ok (.iastore, 1) := by decide +kernel
theorem dX4_carries_183 : decode cX4_carries 183 = .ok (.iload_n 2, 1) := by decide +kernel
theorem dX4_carries_184 : decode cX4_carries 184 = .ok (.iconst 3, 1) := by decide +kernel
theorem dX4_carries_185 : decode cX4_carries 185 = .ok (.if_icmp .gt 11, 3) := by decide +kernel
theorem dX4_carries_188 : decode cX4_carries 188 = .ok (.aload_n 0, 1) := by decide +kernel
theorem dX4_carries_189 : decode cX4_carries 189 = .ok (.iload_n 1, 1) := by decide +kernel
theorem dX4_carries_190 : decode cX4_carries 190 = .ok (.invokevirtual 204, 3) := by decide +kernel
theorem dX4_carries_193 : decode cX4_carries 193 = .ok (.goto 36, 3) := by decide +kernel
theorem dX4_carries_196 : decode cX4_carries 196 = .ok (.iload_n 2, 1) := by decide +kernel
theorem dX4_carries_197 : decode cX4_carries 197 = .ok (.bipush 13, 2) := by decide +kernel
theorem dX4_carries_199 : decode cX4_carries 199 = .ok (.if_icmp .lt 11, 3) := by decide +kernel
theorem dX4_carries_202 : decode cX4_carries 202 = .ok (.aload_n 0, 1) := by decide +kernel
theorem dX4_carries_203 : decode cX4_carries 203 = .ok (.iload_n 1, 1) := by decide +kernel
theorem dX4_carries_204 : decode cX4_carries 204 = .ok (.invokevirtual 207, 3) := by decide +kernel
theorem dX4_carries_207 : decode cX4_carries 207 = .ok (.goto 22, 3) := by decide +kernel
theorem dX4_carries_210 : decode cX4_carries 210 = .ok (.iload_n 2, 1) := by decide +kernel
theorem dX4_carries_211 : decode cX4_carries 211 = .ok (.bipush 8, 2) := by decide +kernel
theorem dX4_carries_213 : decode cX4_carries 213 = .ok (.if_icmp .gt 11, 3) := by decide +kernel
theorem dX4_carries_216 : decode cX4_carries 216 = .ok (.aload_n 0, 1) := by decide +kernel
theorem dX4_carries_217 : decode cX4_carries 217 = .ok (.iload_n 1, 1) := by decide +kernel
theorem dX4_carries_218 : decode cX4_carries 218 = .ok (.invokevirtual 210, 3) := by decide +kernel
theorem dX4_carries_221 : decode cX4_carries 221 = .ok (.goto 8, 3) := by decide +kernel
theorem dX4_carries_224 : decode cX4_carries 224 = .ok (.aload_n 0, 1) := by decide +kernel
theorem dX4_carries_225 : decode cX4_carries 225 = .ok (.iload_n 1, 1) := by decide +kernel
theorem dX4_carries_226 : decode cX4_carries 226 = .ok (.invokevirtual 213, 3) := by decide +kernel
theorem dX4_carries_229 : decode cX4_carries 229 = .ok (.return_, 1) := by decide +kernel
theorem dX4_doesQuestion_0 : decode cX4_doesQuestion 0 = .ok (.aload_n 0, 1) := by decide +kernel
theorem dX4_doesQuestion_1 : decode cX4_doesQuestion 1 = .ok (.getfield 50, 3) := by decide +kernel
theorem dX4_doesQuestion_4 : decode cX4_doesQuestion 4 = .ok (.iload_n 1, 1) := by decide +kernel
theorem dX4_doesQuestion_5 : decode cX4_doesQuestion 5 = .ok (.iaload, 1) := by decide +kernel
theorem dX4_doesQuestion_6 : decode cX4_doesQuestion 6 = .ok (.istore_n 2, 1) := by decide +kernel
theorem dX4_doesQuestion_7 : decode cX4_doesQuestion 7 = .ok (.iload_n 2, 1) := by decide +kernel
theorem dX4_doesQuestion_8 : decode cX4_doesQuestion 8 = .ok (.iconst 1, 1) := by decide +kernel
theorem dX4_doesQuestion_9 : decode cX4_doesQuestion 9 = .ok (.if_icmp .ne 39, 3) := by decide +kernel
theorem dX4_doesQuestion_12 : decode cX4_doesQuestion 12 = .ok (.aload_n 0, 1) := by decide +kernel
theorem dX4_doesQuestion_13 : decode cX4_doesQuestion 13 = .ok (.getfield 86, 3) := by decide +kernel
theorem dX4_doesQuestion_16 : decode cX4_doesQuestion 16 = .ok (.aload_n 0, 1) := by decide +kernel
theorem dX4_doesQuestion_17 : decode cX4_doesQuestion 17 = .ok (.getfield 141, 3) := by decide +kernel
theorem dX4_doesQuestion_20 : decode cX4_doesQuestion 20 = .ok (.iload_n 1, 1) := by decide +kernel
theorem dX4_doesQuestion_21 : decode cX4_doesQuestion 21 = .ok (.iastore, 1) := by decide +kernel
theorem dX4_doesQuestion_22 : decode cX4_doesQuestion 22 = .ok (.aload_n 0, 1) := by decide +kernel
theorem dX4_doesQuestion_23 : decode cX4_doesQuestion 23 = .ok (.dup, 1) := by decide +kernel
theorem dX4_doesQuestion_24 : decode cX4_doesQuestion 24 = .ok (.getfield 141, 3) := by decide +kernel
theorem dX4_doesQuestion_27 : decode cX4_doesQuestion 27 = .ok (.iconst 1, 1) := by decide +kernel
theorem dX4_doesQuestion_28 : decode cX4_doesQuestion 28 = .ok (.iadd, 1) := by decide +kernel
theorem dX4_doesQuestion_29 : decode cX4_doesQuestion 29 = .ok (.putfield 141, 3) := by decide +kernel
theorem dX4_doesQuestion_32 : decode cX4_doesQuestion 32 = .ok (.aload_n 0, 1) := by decide +kernel
theorem dX4_doesQuestion_33 : decode cX4_doesQuestion 33 = .ok (.aload_n 0, 1) := by decide +kernel
theorem dX4_doesQuestion_34 : decode cX4_doesQuestion 34 = .ok (.getfield 59, 3) := by decide +kernel
theorem dX4_doesQuestion_37 : decode cX4_doesQuestion 37 = .ok (.iload_n 1, 1) := by decide +kernel
theorem dX4_doesQuestion_38 : decode cX4_doesQuestion 38 = .ok (.iaload, 1) := by decide +kernel
theorem dX4_doesQuestion_39 : decode cX4_doesQuestion 39 = .ok (.invokestatic 137, 3) := by decide +kernel
theorem dX4_doesQuestion_42 : decode cX4_doesQuestion 42 = .ok (.invokevirtual 216, 3) := by decide +kernel
theorem dX4_doesQuestion_45 : decode cX4_doesQuestion 45 = .ok (.goto 164, 3) := by decide +kernel
theorem dX4_doesQuestion_48 : decode cX4_doesQuestion 48 = .ok (.iload_n 2, 1) := by decide +kernel
theorem dX4_doesQuestion_49 : decode cX4_doesQuestion 49 = .ok (.iconst 3, 1) := by decide +kernel
theorem dX4_doesQuestion_50 : decode cX4_doesQuestion 50 = .ok (.if_icmp .ne 16, 3) := by decide +kernel
theorem dX4_doesQuestion_53 : decode cX4_doesQuestion 53 = .ok (.aload_n 0, 1) := by decide +kernel
theorem dX4_doesQuestion_54 : decode cX4_doesQuestion 54 = .ok (.dup, 1) := by decide +kernel
theorem dX4_doesQuestion_55 : decode cX4_doesQuestion 55 = .ok (.getfield 141, 3) := by decide +kernel
theorem dX4_doesQuestion_58 : decode cX4_doesQuestion 58 = .ok (.iconst 1, 1) := by decide +kernel
theorem dX4_doesQuestion_59 : decode cX4_doesQuestion 59 = .ok (.isub, 1) := by decide +kernel
theorem dX4_doesQuestion_60 : decode cX4_doesQuestion 60 = .ok (.putfield 141, 3) := by decide +kernel
theorem dX4_doesQuestion_63 : decode cX4_doesQuestion 63 = .ok (.goto 146, 3) := by decide +kernel
theorem dX4_doesQuestion_66 : decode cX4_doesQuestion 66 = .ok (.iload_n 2, 1) := by decide +kernel
theorem dX4_doesQuestion_67 : decode cX4_doesQuestion 67 = .ok (.iconst 2, 1) := by decide +kernel
theorem dX4_doesQuestion_68 : decode cX4_doesQuestion 68 = .ok (.if_icmp .ne 62, 3) := by decide +kernel
theorem dX4_doesQuestion_71 : decode cX4_doesQuestion 71 = .ok (.aload_n 0, 1) := by decide +kernel
theorem dX4_doesQuestion_72 : decode cX4_doesQuestion 72 = .ok (.dup, 1) := by decide +kernel
theorem dX4_doesQuestion_73 : decode cX4_doesQuestion 73 = .ok (.getfield 141, 3) := by decide +kernel
theorem dX4_doesQuestion_76 : decode cX4_doesQuestion 76 = .ok (.iconst 1, 1) := by decide +kernel
theorem dX4_doesQuestion_77 : decode cX4_doesQuestion 77 = .ok (.isub, 1) := by decide +kernel
theorem dX4_doesQuestion_78 : decode cX4_doesQuestion 78 = .ok (.putfield 141, 3) := by decide +kernel
theorem dX4_doesQuestion_81 : decode cX4_doesQuestion 81 = .ok (.aload_n 0, 1) := by decide +kernel
theorem dX4_doesQuestion_82 : decode cX4_doesQuestion 82 = .ok (.getfield 53, 3) := by decide +kernel
theorem dX4_doesQuestion_85 : decode cX4_doesQuestion 85 = .ok (.iload_n 1, 1) := by decide +kernel
theorem dX4_doesQuestion_86 : decode cX4_doesQuestion 86 = .ok (.aload_n 0, 1) := by decide +kernel
theorem dX4_doesQuestion_87 : decode cX4_doesQuestion 87 = .ok (.getfield 53, 3) := by decide +kernel
theorem dX4_doesQuestion_90 : decode cX4_doesQuestion 90 = .ok (.aload_n 0, 1) := by decide +kernel
theorem dX4_doesQuestion_91 : decode cX4_doesQuestion 91 = .ok (.getfield 86, 3) := by decide +kernel
theorem dX4_doesQuestion_94 : decode cX4_doesQuestion 94 = .ok (.aload_n 0, 1) := by decide +kernel
theorem dX4_doesQuestion_95 : decode cX4_doesQuestion 95 = .ok (.getfield 141, 3) := by decide +kernel
theorem dX4_doesQuestion_98 : decode cX4_doesQuestion 98 = .ok (.iaload, 1) := by decide +kernel
theorem dX4_doesQuestion_99 : decode cX4_doesQuestion 99 = .ok (.iaload, 1) := by decide +kernel
theorem dX4_doesQuestion_100 : decode cX4_doesQuestion 100 = .ok (.iastore, 1) := by decide +kernel
theorem dX4_doesQuestion_101 : decode cX4_doesQuestion 101 = .ok (.aload_n 0, 1) := by decide +kernel
theorem dX4_doesQuestion_102 : decode cX4_doesQuestion 102 = .ok (.getfield 56, 3) := by decide +kernel
theorem dX4_doesQuestion_105 : decode cX4_doesQuestion 105 = .ok (.iload_n 1, 1) := by decide +kernel
theorem dX4_doesQuestion_106 : decode cX4_doesQuestion 106 = .ok (.iaload, 1) := by decide +kernel
theorem dX4_doesQuestion_107 : decode cX4_doesQuestion 107 = .ok (.ifCond .le 102, 3) := by decide +kernel
theorem dX4_doesQuestion_110 : decode cX4_doesQuestion 110 = .ok (.aload_n 0, 1) := by decide +kernel
theorem dX4_doesQuestion_111 : decode cX4_doesQuestion 111 = .ok (.iload_n 1, 1) := by decide +kernel
theorem dX4_doesQuestion_112 : decode cX4_doesQuestion 112 = .ok (.aload_n 0, 1) := by decide +kernel
theorem dX4_doesQuestion_113 : decode cX4_doesQuestion 113 = .ok (.getfield 53, 3) := by decide +kernel
theorem dX4_doesQuestion_116 : decode cX4_doesQuestion 116 = .ok (.iload_n 1, 1) := by decide +kernel
theorem dX4_doesQuestion_117 : decode cX4_doesQuestion 117 = .ok (.iaload, 1) := by decide +kernel
theorem dX4_doesQuestion_118 : decode cX4_doesQuestion 118 = .ok (.aload_n 0, 1) := by decide +kernel
theorem dX4_doesQuestion_119 : decode cX4_doesQuestion 119 = .ok (.getfield 56, 3) := by decide +kernel
theorem dX4_doesQuestion_122 : decode cX4_doesQuestion 122 = .ok (.iload_n 1, 1) := by decide +kernel
theorem dX4_doesQuestion_123 : decode cX4_doesQuestion 123 = .ok (.iaload, 1) := by decide +kernel
theorem dX4_doesQuestion_124 : decode cX4_doesQuestion 124 = .ok (.invokevirtual 200, 3) := by decide +kernel
theorem dX4_doesQuestion_127 : decode cX4_doesQuestion 127 = .ok (.goto 82, 3) := by decide +kernel
theorem dX4_doesQuestion_130 : decode cX4_doesQuestion 130 = .ok (.aload_n 0, 1) := by decide +kernel
theorem dX4_doesQuestion_131 : decode cX4_doesQuestion 131 = .ok (.iload_n 1, 1) := by decide +kernel
theorem dX4_doesQuestion_132 : decode cX4_doesQuestion 132 = .ok (.aload_n 0, 1) := by decide +kernel
theorem dX4_doesQuestion_133 : decode cX4_doesQuestion 133 = .ok (.getfield 53, 3) := by decide +kernel
theorem dX4_doesQuestion_136 : decode cX4_doesQuestion 136 = .ok (.iload_n 1, 1) := by decide +kernel
theorem dX4_doesQuestion_137 : decode cX4_doesQuestion 137 = .ok (.iaload, 1) := by decide +kernel
theorem dX4_doesQuestion_138 : decode cX4_doesQuestion 138 = .ok (.aload_n 0, 1) := by decide +kernel
theorem dX4_doesQuestion_139 : decode cX4_doesQuestion 139 = .ok (.getfield 56, 3) := by decide +kernel
theorem dX4_doesQuestion_142 : decode cX4_doesQuestion 142 = .ok (.iload_n 1, 1) := by decide +kernel
theorem dX4_doesQuestion_143 : decode cX4_doesQuestion 143 = .ok (.iaload, 1) := by decide +kernel
theorem dX4_doesQuestion_144 : decode cX4_doesQuestion 144 = .ok (.invokevirtual 200, 3) := by decide +kernel
theorem dX4_doesQuestion_147 : decode cX4_doesQuestion 147 = .ok (.aload_n 0, 1) := by decide +kernel
theorem dX4_doesQuestion_148 : decode cX4_doesQuestion 148 = .ok (.invokevirtual 144, 3) := by decide +kernel
theorem dX4_doesQuestion_151 : decode cX4_doesQuestion 151 = .ok (.aload_n 0, 1) := by decide +kernel
theorem dX4_doesQuestion_152 : decode cX4_doesQuestion 152 = .ok (.getfield 47, 3) := by decide +kernel
theorem dX4_doesQuestion_155 : decode cX4_doesQuestion 155 = .ok (.iload_n 1, 1) := by decide +kernel
theorem dX4_doesQuestion_156 : decode cX4_doesQuestion 156 = .ok (.iaload, 1) := by decide +kernel
theorem dX4_doesQuestion_157 : decode cX4_doesQuestion 157 = .ok (.if_icmp .ne 32, 3) := by decide +kernel
theorem dX4_doesQuestion_160 : decode cX4_doesQuestion 160 = .ok (.aload_n 0, 1) := by decide +kernel
theorem dX4_doesQuestion_161 : decode cX4_doesQuestion 161 = .ok (.getfield 53, 3) := by decide +kernel
theorem dX4_doesQuestion_164 : decode cX4_doesQuestion 164 = .ok (.aload_n 0, 1) := by decide +kernel
theorem dX4_doesQuestion_165 : decode cX4_doesQuestion 165 = .ok (.getfield 86, 3) := by decide +kernel
theorem dX4_doesQuestion_168 : decode cX4_doesQuestion 168 = .ok (.aload_n 0, 1) := by decide +kernel
theorem dX4_doesQuestion_169 : decode cX4_doesQuestion 169 = .ok (.getfield 141, 3) := by decide +kernel
theorem dX4_doesQuestion_172 : decode cX4_doesQuestion 172 = .ok (.iconst 1, 1) := by decide +kernel
theorem dX4_doesQuestion_173 : decode cX4_doesQuestion 173 = .ok (.isub, 1) := by decide +kernel
theorem dX4_doesQuestion_174 : decode cX4_doesQuestion 174 = .ok (.iaload, 1) := by decide +kernel
theorem dX4_doesQuestion_175 : decode cX4_doesQuestion 175 = .ok (.iaload, 1) := by decide +kernel
theorem dX4_doesQuestion_176 : decode cX4_doesQuestion 176 = .ok (.aload_n 0, 1) := by decide +kernel
theorem dX4_doesQuestion_177 : decode cX4_doesQuestion 177 = .ok (.getfield 53, 3) := by decide +kernel
theorem dX4_doesQuestion_180 : decode cX4_doesQuestion 180 = .ok (.iload_n 1, 1) := by decide +kernel
theorem dX4_doesQuestion_181 : decode cX4_doesQuestion 181 = .ok (.iaload, 1) := by decide +kernel
theorem dX4_doesQuestion_182 : decode cX4_doesQuestion 182 = .ok (.if_icmp .ne 7, 3) := by decide +kernel
theorem dX4_doesQuestion_185 : decode cX4_doesQuestion 185 = .ok (.iconst 1, 1) := by decide +kernel
theorem dX4_doesQuestion_186 : decode cX4_doesQuestion 186 = .ok (.goto 4, 3) := by decide +kernel
theorem dX4_doesQuestion_189 : decode cX4_doesQuestion 189 = .ok (.iconst 0, 1) := by decide +kernel
theorem dX4_doesQuestion_190 : decode cX4_doesQuestion 190 = .ok (.istore_n 3, 1) := by decide +kernel
theorem dX4_doesQuestion_191 : decode cX4_doesQuestion 191 = .ok (.aload_n 0, 1) := by decide +kernel
theorem dX4_doesQuestion_192 : decode cX4_doesQuestion 192 = .ok (.dup, 1) := by decide +kernel
theorem dX4_doesQuestion_193 : decode cX4_doesQuestion 193 = .ok (.getfield 141, 3) := by decide +kernel
theorem dX4_doesQuestion_196 : decode cX4_doesQuestion 196 = .ok (.iload_n 3, 1) := by decide +kernel
theorem dX4_doesQuestion_197 : decode cX4_doesQuestion 197 = .ok (.ifCond .eq 7, 3) := by decide +kernel
theorem dX4_doesQuestion_200 : decode cX4_doesQuestion 200 = .ok (.iconst 1, 1) := by decide +kernel
theorem dX4_doesQuestion_201 : decode cX4_doesQuestion 201 = .ok (.goto 4, 3) := by decide +kernel
theorem dX4_doesQuestion_204 : decode cX4_doesQuestion 204 = .ok (.iconst 0, 1) := by decide +kernel
theorem dX4_doesQuestion_205 : decode cX4_doesQuestion 205 = .ok (.isub, 1) := by decide +kernel
theorem dX4_doesQuestion_206 : decode cX4_doesQuestion 206 = .ok (.putfield 141, 3) := by decide +kernel
theorem dX4_doesQuestion_209 : decode cX4_doesQuestion 209 = .ok (.return_, 1) := by decide +kernel
theorem dX4_doesTurn_0 : decode cX4_doesTurn 0 = .ok (.aload_n 0, 1) := by decide +kernel
theorem dX4_doesTurn_1 : decode cX4_doesTurn 1 = .ok (.getfield 50, 3) := by decide +kernel
theorem dX4_doesTurn_4 : decode cX4_doesTurn 4 = .ok (.iload_n 1, 1) := by decide +kernel
theorem dX4_doesTurn_5 : decode cX4_doesTurn 5 = .ok (.iaload, 1) := by decide +kernel
theorem dX4_doesTurn_6 : decode cX4_doesTurn 6 = .ok (.istore_n 2, 1) := by decide +kernel
theorem dX4_doesTurn_7 : decode cX4_doesTurn 7 = .ok (.aload_n 0, 1) := by decide +kernel
theorem dX4_doesTurn_8 : decode cX4_doesTurn 8 = .ok (.getfield 53, 3) := by decide +kernel
theorem dX4_doesTurn_11 : decode cX4_doesTurn 11 = .ok (.iload_n 1, 1) := by decide +kernel
theorem dX4_doesTurn_12 : decode cX4_doesTurn 12 = .ok (.iaload, 1) := by decide +kernel
theorem dX4_doesTurn_13 : decode cX4_doesTurn 13 = .ok (.istore_n 3, 1) := by decide +kernel
theorem dX4_doesTurn_14 : decode cX4_doesTurn 14 = .ok (.iload_n 2, 1) := by decide +kernel
theorem dX4_doesTurn_15 : decode cX4_doesTurn 15 = .ok (.iconst 4, 1) := by decide +kernel
theorem dX4_doesTurn_16 : decode cX4_doesTurn 16 = .ok (.if_icmp .ne 22, 3) := by decide +kernel
theorem dX4_doesTurn_19 : decode cX4_doesTurn 19 = .ok (.aload_n 0, 1) := by decide +kernel
theorem dX4_doesTurn_20 : decode cX4_doesTurn 20 = .ok (.getfield 77, 3) := by decide +kernel
theorem dX4_doesTurn_23 : decode cX4_doesTurn 23 = .ok (.iconst 4, 1) := by decide +kernel
theorem dX4_doesTurn_24 : decode cX4_doesTurn 24 = .ok (.iload_n 3, 1) := by decide +kernel
theorem dX4_doesTurn_25 : decode cX4_doesTurn 25 = .ok (.imul, 1) := by decide +kernel
theorem dX4_doesTurn_26 : decode cX4_doesTurn 26 = .ok (.aload_n 0, 1) := by decide +kernel
theorem dX4_doesTurn_27 : decode cX4_doesTurn 27 = .ok (.getfield 47, 3) := by decide +kernel
theorem dX4_doesTurn_30 : decode cX4_doesTurn 30 = .ok (.iload_n 1, 1) := by decide +kernel
theorem dX4_doesTurn_31 : decode cX4_doesTurn 31 = .ok (.iaload, 1) := by decide +kernel
theorem dX4_doesTurn_32 : decode cX4_doesTurn 32 = .ok (.iadd, 1) := by decide +kernel
theorem dX4_doesTurn_33 : decode cX4_doesTurn 33 = .ok (.iconst 4, 1) := by decide +kernel
theorem dX4_doesTurn_34 : decode cX4_doesTurn 34 = .ok (.iastore, 1) := by decide +kernel
theorem dX4_doesTurn_35 : decode cX4_doesTurn 35 = .ok (.goto 157, 3) := by decide +kernel
theorem dX4_doesTurn_38 : decode cX4_doesTurn 38 = .ok (.iload_n 2, 1) := by decide +kernel
theorem dX4_doesTurn_39 : decode cX4_doesTurn 39 = .ok (.iconst 5, 1) := by decide +kernel
theorem dX4_doesTurn_40 : decode cX4_doesTurn 40 = .ok (.if_icmp .ne 16, 3) := by decide +kernel
theorem dX4_doesTurn_43 : decode cX4_doesTurn 43 = .ok (.aload_n 0, 1) := by decide +kernel
theorem dX4_doesTurn_44 : decode cX4_doesTurn 44 = .ok (.aload_n 0, 1) := by decide +kernel
theorem dX4_doesTurn_45 : decode cX4_doesTurn 45 = .ok (.getfield 47, 3) := by decide +kernel
theorem dX4_doesTurn_48 : decode cX4_doesTurn 48 = .ok (.iload_n 3, 1) := by decide +kernel
theorem dX4_doesTurn_49 : decode cX4_doesTurn 49 = .ok (.iaload, 1) := by decide +kernel
theorem dX4_doesTurn_50 : decode cX4_doesTurn 50 = .ok (.invokevirtual 216, 3) := by decide +kernel
theorem dX4_doesTurn_53 : decode cX4_doesTurn 53 = .ok (.goto 139, 3) := by decide +kernel
theorem dX4_doesTurn_56 : decode cX4_doesTurn 56 = .ok (.iload_n 2, 1) := by decide +kernel
theorem dX4_doesTurn_57 : decode cX4_doesTurn 57 = .ok (.bipush 6, 2) := by decide +kernel
theorem dX4_doesTurn_59 : decode cX4_doesTurn 59 = .ok (.if_icmp .ne 11, 3) := by decide +kernel
theorem dX4_doesTurn_62 : decode cX4_doesTurn 62 = .ok (.aload_n 0, 1) := by decide +kernel
theorem dX4_doesTurn_63 : decode cX4_doesTurn 63 = .ok (.iload_n 3, 1) := by decide +kernel
theorem dX4_doesTurn_64 : decode cX4_doesTurn 64 = .ok (.invokevirtual 193, 3) := by decide +kernel
theorem dX4_doesTurn_67 : decode cX4_doesTurn 67 = .ok (.goto 125, 3) := by decide +kernel
theorem dX4_doesTurn_70 : decode cX4_doesTurn 70 = .ok (.iload_n 2, 1) := by decide +kernel
theorem dX4_doesTurn_71 : decode cX4_doesTurn 71 = .ok (.bipush 7, 2) := by decide +kernel
theorem dX4_doesTurn_73 : decode cX4_doesTurn 73 = .ok (.if_icmp .ne 23, 3) := by decide +kernel
theorem dX4_doesTurn_76 : decode cX4_doesTurn 76 = .ok (.aload_n 0, 1) := by decide +kernel
theorem dX4_doesTurn_77 : decode cX4_doesTurn 77 = .ok (.iload_n 1, 1) := by decide +kernel
theorem dX4_doesTurn_78 : decode cX4_doesTurn 78 = .ok (.aload_n 0, 1) := by decide +kernel
theorem dX4_doesTurn_79 : decode cX4_doesTurn 79 = .ok (.getfield 53, 3) := by decide +kernel
theorem dX4_doesTurn_82 : decode cX4_doesTurn 82 = .ok (.iload_n 3, 1) := by decide +kernel
theorem dX4_doesTurn_83 : decode cX4_doesTurn 83 = .ok (.iaload, 1) := by decide +kernel
theorem dX4_doesTurn_84 : decode cX4_doesTurn 84 = .ok (.aload_n 0, 1) := by decide +kernel
theorem dX4_doesTurn_85 : decode cX4_doesTurn 85 = .ok (.getfield 56, 3) := by decide +kernel
theorem dX4_doesTurn_88 : decode cX4_doesTurn 88 = .ok (.iload_n 3, 1) := by decide +kernel
theorem dX4_doesTurn_89 : decode cX4_doesTurn 89 = .ok (.iaload, 1) := by decide +kernel
theorem dX4_doesTurn_90 : decode cX4_doesTurn 90 = .ok (.invokevirtual 200, 3) := by decide +kernel
theorem dX4_doesTurn_93 : decode cX4_doesTurn 93 = .ok (.goto 99, 3) := by decide +kernel
theorem dX4_doesTurn_96 : decode cX4_doesTurn 96 = .ok (.aload_n 0, 1) := by decide +kernel
theorem dX4_doesTurn_97 : decode cX4_doesTurn 97 = .ok (.iload_n 1, 1) := by decide +kernel
theorem dX4_doesTurn_98 : decode cX4_doesTurn 98 = .ok (.aload_n 0, 1) := by decide +kernel
theorem dX4_doesTurn_99 : decode cX4_doesTurn 99 = .ok (.getfield 53, 3) := by decide +kernel
theorem dX4_doesTurn_102 : decode cX4_doesTurn 102 = .ok (.iload_n 3, 1) := by decide +kernel
theorem dX4_doesTurn_103 : decode cX4_doesTurn 103 = .ok (.iaload, 1) := by decide +kernel
theorem dX4_doesTurn_104 : decode cX4_doesTurn 104 = .ok (.aload_n 0, 1) := by decide +kernel
theorem dX4_doesTurn_105 : decode cX4_doesTurn 105 = .ok (.getfield 56, 3) := by decide +kernel
theorem dX4_doesTurn_108 : decode cX4_doesTurn 108 = .ok (.iload_n 3, 1) := by decide +kernel
theorem dX4_doesTurn_109 : decode cX4_doesTurn 109 = .ok (.iaload, 1) := by decide +kernel
theorem dX4_doesTurn_110 : decode cX4_doesTurn 110 = .ok (.invokestatic 187, 3) := by decide +kernel
theorem dX4_doesTurn_113 : decode cX4_doesTurn 113 = .ok (.invokevirtual 200, 3) := by decide +kernel
theorem dX4_doesTurn_116 : decode cX4_doesTurn 116 = .ok (.aload_n 0, 1) := by decide +kernel
theorem dX4_doesTurn_117 : decode cX4_doesTurn 117 = .ok (.getfield 89, 3) := by decide +kernel
theorem dX4_doesTurn_120 : decode cX4_doesTurn 120 = .ok (.bipush 40, 2) := by decide +kernel
theorem dX4_doesTurn_122 : decode cX4_doesTurn 122 = .ok (.aload_n 0, 1) := by decide +kernel
theorem dX4_doesTurn_123 : decode cX4_doesTurn 123 = .ok (.getfield 47, 3) := by decide +kernel
theorem dX4_doesTurn_126 : decode cX4_doesTurn 126 = .ok (.iload_n 3, 1) := by decide +kernel
theorem dX4_doesTurn_127 : decode cX4_doesTurn 127 = .ok (.iaload, 1) := by decide +kernel
theorem dX4_doesTurn_128 : decode cX4_doesTurn 128 = .ok (.imul, 1) := by decide +kernel
theorem dX4_doesTurn_129 : decode cX4_doesTurn 129 = .ok (.bipush 10, 2) := by decide +kernel
theorem dX4_doesTurn_131 : decode cX4_doesTurn 131 = .ok (.aload_n 0, 1) := by decide +kernel
theorem dX4_doesTurn_132 : decode cX4_doesTurn 132 = .ok (.getfield 47, 3) := by decide +kernel
theorem dX4_doesTurn_135 : decode cX4_doesTurn 135 = .ok (.iload_n 1, 1) := by decide +kernel
theorem dX4_doesTurn_136 : decode cX4_doesTurn 136 = .ok (.iaload, 1) := by decide +kernel
theorem dX4_doesTurn_137 : decode cX4_doesTurn 137 = .ok (.imul, 1) := by decide +kernel
theorem dX4_doesTurn_138 : decode cX4_doesTurn 138 = .ok (.iadd, 1) := by decide +kernel
theorem dX4_doesTurn_139 : decode cX4_doesTurn 139 = .ok (.aload_n 0, 1) := by decide +kernel
theorem dX4_doesTurn_140 : decode cX4_doesTurn 140 = .ok (.getfield 53, 3) := by decide +kernel
theorem dX4_doesTurn_143 : decode cX4_doesTurn 143 = .ok (.iload_n 3, 1) := by decide +kernel
theorem dX4_doesTurn_144 : decode cX4_doesTurn 144 = .ok (.iaload, 1) := by decide +kernel
theorem dX4_doesTurn_145 : decode cX4_doesTurn 145 = .ok (.iadd, 1) := by decide +kernel
theorem dX4_doesTurn_146 : decode cX4_doesTurn 146 = .ok (.aload_n 0, 1) := by decide +kernel
theorem dX4_doesTurn_147 : decode cX4_doesTurn 147 = .ok (.getfield 29, 3) := by decide +kernel
theorem dX4_doesTurn_150 : decode cX4_doesTurn 150 = .ok (.bipush 10, 2) := by decide +kernel
theorem dX4_doesTurn_152 : decode cX4_doesTurn 152 = .ok (.aload_n 0, 1) := by decide +kernel
theorem dX4_doesTurn_153 : decode cX4_doesTurn 153 = .ok (.getfield 47, 3) := by decide +kernel
theorem dX4_doesTurn_156 : decode cX4_doesTurn 156 = .ok (.iload_n 3, 1) := by decide +kernel
theorem dX4_doesTurn_157 : decode cX4_doesTurn 157 = .ok (.iaload, 1) := by decide +kernel
theorem dX4_doesTurn_158 : decode cX4_doesTurn 158 = .ok (.imul, 1) := by decide +kernel
theorem dX4_doesTurn_159 : decode cX4_doesTurn 159 = .ok (.aload_n 0, 1) := by decide +kernel
theorem dX4_doesTurn_160 : decode cX4_doesTurn 160 = .ok (.getfield 53, 3) := by decide +kernel
theorem dX4_doesTurn_163 : decode cX4_doesTurn 163 = .ok (.iload_n 3, 1) := by decide +kernel
theorem dX4_doesTurn_164 : decode cX4_doesTurn 164 = .ok (.iaload, 1) := by decide +kernel
theorem dX4_doesTurn_165 : decode cX4_doesTurn 165 = .ok (.iadd, 1) := by decide +kernel
theorem dX4_doesTurn_166 : decode cX4_doesTurn 166 = .ok (.iaload, 1) := by decide +kernel
theorem dX4_doesTurn_167 : decode cX4_doesTurn 167 = .ok (.aload_n 0, 1) := by decide +kernel
theorem dX4_doesTurn_168 : decode cX4_doesTurn 168 = .ok (.getfield 56, 3) := by decide +kernel
theorem dX4_doesTurn_171 : decode cX4_doesTurn 171 = .ok (.iload_n 3, 1) := by decide +kernel
theorem dX4_doesTurn_172 : decode cX4_doesTurn 172 = .ok (.iaload, 1) := by decide +kernel
theorem dX4_doesTurn_173 : decode cX4_doesTurn 173 = .ok (.if_icmp .ne 7, 3) := by decide +kernel
theorem dX4_doesTurn_176 : decode cX4_doesTurn 176 = .ok (.iconst 1, 1) := by decide +kernel
theorem dX4_doesTurn_177 : decode cX4_doesTurn 177 = .ok (.goto 4, 3) := by decide +kernel
theorem dX4_doesTurn_180 : decode cX4_doesTurn 180 = .ok (.iconst 0, 1) := by decide +kernel
theorem dX4_doesTurn_181 : decode cX4_doesTurn 181 = .ok (.bastore, 1) := by decide +kernel
theorem dX4_doesTurn_182 : decode cX4_doesTurn 182 = .ok (.aload_n 0, 1) := by decide +kernel
theorem dX4_doesTurn_183 : decode cX4_doesTurn 183 = .ok (.aload_n 0, 1) := by decide +kernel
theorem dX4_doesTurn_184 : decode cX4_doesTurn 184 = .ok (.getfield 47, 3) := by decide +kernel
theorem dX4_doesTurn_187 : decode cX4_doesTurn 187 = .ok (.iload_n 3, 1) := by decide +kernel
theorem dX4_doesTurn_188 : decode cX4_doesTurn 188 = .ok (.iaload, 1) := by decide +kernel
theorem dX4_doesTurn_189 : decode cX4_doesTurn 189 = .ok (.invokevirtual 216, 3) := by decide +kernel
theorem dX4_doesTurn_192 : decode cX4_doesTurn 192 = .ok (.return_, 1) := by decide +kernel
theorem dX4_doesAtom_0 : decode cX4_doesAtom 0 = .ok (.aload_n 0, 1) := by decide +kernel
theorem dX4_doesAtom_1 : decode cX4_doesAtom 1 = .ok (.getfield 50, 3) := by decide +kernel
theorem dX4_doesAtom_4 : decode cX4_doesAtom 4 = .ok (.iload_n 1, 1) := by decide +kernel
theorem dX4_doesAtom_5 : decode cX4_doesAtom 5 = .ok (.iaload, 1) := by decide +kernel
theorem dX4_doesAtom_6 : decode cX4_doesAtom 6 = .ok (.istore_n 2, 1) := by decide +kernel
theorem dX4_doesAtom_7 : decode cX4_doesAtom 7 = .ok (.bipush 10, 2) := by decide +kernel
theorem dX4_doesAtom_9 : decode cX4_doesAtom 9 = .ok (.aload_n 0, 1) := by decide +kernel
theorem dX4_doesAtom_10 : decode cX4_doesAtom 10 = .ok (.getfield 47, 3) := by decide +kernel
theorem dX4_doesAtom_13 : decode cX4_doesAtom 13 = .ok (.iload_n 1, 1) := by decide +kernel
theorem dX4_doesAtom_14 : decode cX4_doesAtom 14 = .ok (.iaload, 1) := by decide +kernel
theorem dX4_doesAtom_15 : decode cX4_doesAtom 15 = .ok (.imul, 1) := by decide +kernel
theorem dX4_doesAtom_16 : decode cX4_doesAtom 16 = .ok (.aload_n 0, 1) := by decide +kernel
theorem dX4_doesAtom_17 : decode cX4_doesAtom 17 = .ok (.getfield 53, 3) := by decide +kernel
theorem dX4_doesAtom_20 : decode cX4_doesAtom 20 = .ok (.iload_n 1, 1) := by decide +kernel
theorem dX4_doesAtom_21 : decode cX4_doesAtom 21 = .ok (.iaload, 1) := by decide +kernel
theorem dX4_doesAtom_22 : decode cX4_doesAtom 22 = .ok (.iadd, 1) := by decide +kernel
theorem dX4_doesAtom_23 : decode cX4_doesAtom 23 = .ok (.istore_n 3, 1) := by decide +kernel
theorem dX4_doesAtom_24 : decode cX4_doesAtom 24 = .ok (.iload_n 2, 1) := by decide +kernel
theorem dX4_doesAtom_25 : decode cX4_doesAtom 25 = .ok (.bipush 9, 2) := by decide +kernel
theorem dX4_doesAtom_27 : decode cX4_doesAtom 27 = .ok (.if_icmp .ne 78, 3) := by decide +kernel
theorem dX4_doesAtom_30 : decode cX4_doesAtom 30 = .ok (.aload_n 0, 1) := by decide +kernel
theorem dX4_doesAtom_31 : decode cX4_doesAtom 31 = .ok (.iload_n 1, 1) := by decide +kernel
theorem dX4_doesAtom_32 : decode cX4_doesAtom 32 = .ok (.aload_n 0, 1) := by decide +kernel
theorem dX4_doesAtom_33 : decode cX4_doesAtom 33 = .ok (.getfield 56, 3) := by decide +kernel
theorem dX4_doesAtom_36 : decode cX4_doesAtom 36 = .ok (.iload_n 1, 1) := by decide +kernel
theorem dX4_doesAtom_37 : decode cX4_doesAtom 37 = .ok (.iaload, 1) := by decide +kernel
theorem dX4_doesAtom_38 : decode cX4_doesAtom 38 = .ok (.iconst 1, 1) := by decide +kernel
theorem dX4_doesAtom_39 : decode cX4_doesAtom 39 = .ok (.invokevirtual 200, 3) := by decide +kernel
theorem dX4_doesAtom_42 : decode cX4_doesAtom 42 = .ok (.aload_n 0, 1) := by decide +kernel
theorem dX4_doesAtom_43 : decode cX4_doesAtom 43 = .ok (.getfield 92, 3) := by decide +kernel
theorem dX4_doesAtom_46 : decode cX4_doesAtom 46 = .ok (.bipush 10, 2) := by decide +kernel
theorem dX4_doesAtom_48 : decode cX4_doesAtom 48 = .ok (.iload_n 3, 1) := by decide +kernel
theorem dX4_doesAtom_49 : decode cX4_doesAtom 49 = .ok (.imul, 1) := by decide +kernel
theorem dX4_doesAtom_50 : decode cX4_doesAtom 50 = .ok (.aload_n 0, 1) := by decide +kernel
theorem dX4_doesAtom_51 : decode cX4_doesAtom 51 = .ok (.getfield 56, 3) := by decide +kernel
theorem dX4_doesAtom_54 : decode cX4_doesAtom 54 = .ok (.iload_n 1, 1) := by decide +kernel
theorem dX4_doesAtom_55 : decode cX4_doesAtom 55 = .ok (.iaload, 1) := by decide +kernel
theorem dX4_doesAtom_56 : decode cX4_doesAtom 56 = .ok (.iadd, 1) := by decide +kernel
theorem dX4_doesAtom_57 : decode cX4_doesAtom 57 = .ok (.iconst 1, 1) := by decide +kernel
theorem dX4_doesAtom_58 : decode cX4_doesAtom 58 = .ok (.bastore, 1) := by decide +kernel
theorem dX4_doesAtom_59 : decode cX4_doesAtom 59 = .ok (.iconst 0, 1) := by decide +kernel
theorem dX4_doesAtom_60 : decode cX4_doesAtom 60 = .ok (.istore 4, 2) := by decide +kernel
theorem dX4_doesAtom_62 : decode cX4_doesAtom 62 = .ok (.iload 4, 2) := by decide +kernel
theorem dX4_doesAtom_64 : decode cX4_doesAtom 64 = .ok (.iconst 4, 1) := by decide +kernel
theorem dX4_doesAtom_65 : decode cX4_doesAtom 65 = .ok (.if_icmp .ge 37, 3) := by decide +kernel
theorem dX4_doesAtom_68 : decode cX4_doesAtom 68 = .ok (.aload_n 0, 1) := by decide +kernel
theorem dX4_doesAtom_69 : decode cX4_doesAtom 69 = .ok (.getfield 89, 3) := by decide +kernel
theorem dX4_doesAtom_72 : decode cX4_doesAtom 72 = .ok (.bipush 40, 2) := by decide +kernel
theorem dX4_doesAtom_74 : decode cX4_doesAtom 74 = .ok (.aload_n 0, 1) := by decide +kernel
theorem dX4_doesAtom_75 : decode cX4_doesAtom 75 = .ok (.getfield 47, 3) := by decide +kernel
theorem dX4_doesAtom_78 : decode cX4_doesAtom 78 = .ok (.iload_n 1, 1) := by decide +kernel
theorem dX4_doesAtom_79 : decode cX4_doesAtom 79 = .ok (.iaload, 1) := by decide +kernel
theorem dX4_doesAtom_80 : decode cX4_doesAtom 80 = .ok (.imul, 1) := by decide +kernel
theorem dX4_doesAtom_81 : decode cX4_doesAtom 81 = .ok (.bipush 10, 2) := by decide +kernel
theorem dX4_doesAtom_83 : decode cX4_doesAtom 83 = .ok (.iload 4, 2) := by decide +kernel
theorem dX4_doesAtom_85 : decode cX4_doesAtom 85 = .ok (.imul, 1) := by decide +kernel
theorem dX4_doesAtom_86 : decode cX4_doesAtom 86 = .ok (.iadd, 1) := by decide +kernel
theorem dX4_doesAtom_87 : decode cX4_doesAtom 87 = .ok (.aload_n 0, 1) := by decide +kernel
theorem dX4_doesAtom_88 : decode cX4_doesAtom 88 = .ok (.getfield 53, 3) := by decide +kernel
theorem dX4_doesAtom_91 : decode cX4_doesAtom 91 = .ok (.iload_n 1, 1) := by decide +kernel
theorem dX4_doesAtom_92 : decode cX4_doesAtom 92 = .ok (.iaload, 1) := by decide +kernel
theorem dX4_doesAtom_93 : decode cX4_doesAtom 93 = .ok (.iadd, 1) := by decide +kernel
theorem dX4_doesAtom_94 : decode cX4_doesAtom 94 = .ok (.iconst 0, 1) := by decide +kernel
theorem dX4_doesAtom_95 : decode cX4_doesAtom 95 = .ok (.bastore, 1) := by decide +kernel
theorem dX4_doesAtom_96 : decode cX4_doesAtom 96 = .ok (.iinc 4 1, 3) := by decide +kernel
theorem dX4_doesAtom_99 : decode cX4_doesAtom 99 = .ok (.goto (-37), 3) := by decide +kernel
theorem dX4_doesAtom_102 : decode cX4_doesAtom 102 = .ok (.goto 59, 3) := by decide +kernel
theorem dX4_doesAtom_105 : decode cX4_doesAtom 105 = .ok (.iload_n 2, 1) := by decide +kernel
theorem dX4_doesAtom_106 : decode cX4_doesAtom 106 = .ok (.bipush 10, 2) := by decide +kernel
theorem dX4_doesAtom_108 : decode cX4_doesAtom 108 = .ok (.if_icmp .ne 24, 3) := by decide +kernel
theorem dX4_doesAtom_111 : decode cX4_doesAtom 111 = .ok (.aload_n 0, 1) := by decide +kernel
theorem dX4_doesAtom_112 : decode cX4_doesAtom 112 = .ok (.aload_n 0, 1) := by decide +kernel
theorem dX4_doesAtom_113 : decode cX4_doesAtom 113 = .ok (.getfield 47, 3) := by decide +kernel
theorem dX4_doesAtom_116 : decode cX4_doesAtom 116 = .ok (.iload_n 1, 1) := by decide +kernel
theorem dX4_doesAtom_117 : decode cX4_doesAtom 117 = .ok (.iaload, 1) := by decide +kernel
theorem dX4_doesAtom_118 : decode cX4_doesAtom 118 = .ok (.aload_n 0, 1) := by decide +kernel
theorem dX4_doesAtom_119 : decode cX4_doesAtom 119 = .ok (.getfield 53, 3) := by decide +kernel
theorem dX4_doesAtom_122 : decode cX4_doesAtom 122 = .ok (.iload_n 1, 1) := by decide +kernel
theorem dX4_doesAtom_123 : decode cX4_doesAtom 123 = .ok (.iaload, 1) := by decide +kernel
theorem dX4_doesAtom_124 : decode cX4_doesAtom 124 = .ok (.iconst 0, 1) := by decide +kernel
theorem dX4_doesAtom_125 : decode cX4_doesAtom 125 = .ok (.iload_n 1, 1) := by decide +kernel
theorem dX4_doesAtom_126 : decode cX4_doesAtom 126 = .ok (.invokevirtual 183, 3) := by decide +kernel
theorem dX4_doesAtom_129 : decode cX4_doesAtom 129 = .ok (.goto 32, 3) := by decide +kernel
theorem dX4_doesAtom_132 : decode cX4_doesAtom 132 = .ok (.aload_n 0, 1) := by decide +kernel
theorem dX4_doesAtom_133 : decode cX4_doesAtom 133 = .ok (.getfield 35, 3) := by decide +kernel
theorem dX4_doesAtom_136 : decode cX4_doesAtom 136 = .ok (.iload_n 3, 1) := by decide +kernel
theorem dX4_doesAtom_137 : decode cX4_doesAtom 137 = .ok (.iload_n 2, 1) := by decide +kernel
theorem dX4_doesAtom_138 : decode cX4_doesAtom 138 = .ok (.bipush 11, 2) := by decide +kernel
theorem dX4_doesAtom_140 : decode cX4_doesAtom 140 = .ok (.if_icmp .ne 12, 3) := by decide +kernel
theorem dX4_doesAtom_143 : decode cX4_doesAtom 143 = .ok (.aload_n 0, 1) := by decide +kernel
theorem dX4_doesAtom_144 : decode cX4_doesAtom 144 = .ok (.getfield 56, 3) := by decide +kernel
theorem dX4_doesAtom_147 : decode cX4_doesAtom 147 = .ok (.iload_n 1, 1) := by decide +kernel
theorem dX4_doesAtom_148 : decode cX4_doesAtom 148 = .ok (.iaload, 1) := by decide +kernel
theorem dX4_doesAtom_149 : decode cX4_doesAtom 149 = .ok (.goto 4, 3) := by decide +kernel
theorem dX4_doesAtom_152 : decode cX4_doesAtom 152 = .ok (.iconst 0, 1) := by decide +kernel
theorem dX4_doesAtom_153 : decode cX4_doesAtom 153 = .ok (.iastore, 1) := by decide +kernel
theorem dX4_doesAtom_154 : decode cX4_doesAtom 154 = .ok (.aload_n 0, 1) := by decide +kernel
theorem dX4_doesAtom_155 : decode cX4_doesAtom 155 = .ok (.getfield 38, 3) := by decide +kernel
theorem dX4_doesAtom_158 : decode cX4_doesAtom 158 = .ok (.iload_n 3, 1) := by decide +kernel
theorem dX4_doesAtom_159 : decode cX4_doesAtom 159 = .ok (.iload_n 1, 1) := by decide +kernel
theorem dX4_doesAtom_160 : decode cX4_doesAtom 160 = .ok (.iastore, 1) := by decide +kernel
theorem dX4_doesAtom_161 : decode cX4_doesAtom 161 = .ok (.return_, 1) := by decide +kernel
theorem dX4_doesOffer_0 : decode cX4_doesOffer 0 = .ok (.aload_n 0, 1) := by decide +kernel
theorem dX4_doesOffer_1 : decode cX4_doesOffer 1 = .ok (.getfield 50, 3) := by decide +kernel
theorem dX4_doesOffer_4 : decode cX4_doesOffer 4 = .ok (.iload_n 1, 1) := by decide +kernel
theorem dX4_doesOffer_5 : decode cX4_doesOffer 5 = .ok (.iaload, 1) := by decide +kernel
theorem dX4_doesOffer_6 : decode cX4_doesOffer 6 = .ok (.istore_n 2, 1) := by decide +kernel
theorem dX4_doesOffer_7 : decode cX4_doesOffer 7 = .ok (.iload_n 2, 1) := by decide +kernel
theorem dX4_doesOffer_8 : decode cX4_doesOffer 8 = .ok (.bipush 13, 2) := by decide +kernel
theorem dX4_doesOffer_10 : decode cX4_doesOffer 10 = .ok (.if_icmp .ne 147, 3) := by decide +kernel
theorem dX4_doesOffer_13 : decode cX4_doesOffer 13 = .ok (.iconst 0, 1) := by decide +kernel
theorem dX4_doesOffer_14 : decode cX4_doesOffer 14 = .ok (.istore_n 3, 1) := by decide +kernel
theorem dX4_doesOffer_15 : decode cX4_doesOffer 15 = .ok (.iload_n 3, 1) := by decide +kernel
theorem dX4_doesOffer_16 : decode cX4_doesOffer 16 = .ok (.iload_n 1, 1) := by decide +kernel
theorem dX4_doesOffer_17 : decode cX4_doesOffer 17 = .ok (.if_icmp .ge 119, 3) := by decide +kernel
theorem dX4_doesOffer_20 : decode cX4_doesOffer 20 = .ok (.aload_n 0, 1) := by decide +kernel
theorem dX4_doesOffer_21 : decode cX4_doesOffer 21 = .ok (.getfield 47, 3) := by decide +kernel
theorem dX4_doesOffer_24 : decode cX4_doesOffer 24 = .ok (.iload_n 3, 1) := by decide +kernel
theorem dX4_doesOffer_25 : decode cX4_doesOffer 25 = .ok (.iaload, 1) := by decide +kernel
theorem dX4_doesOffer_26 : decode cX4_doesOffer 26 = .ok (.aload_n 0, 1) := by decide +kernel
theorem dX4_doesOffer_27 : decode cX4_doesOffer 27 = .ok (.getfield 47, 3) := by decide +kernel
theorem dX4_doesOffer_30 : decode cX4_doesOffer 30 = .ok (.iload_n 1, 1) := by decide +kernel
theorem dX4_doesOffer_31 : decode cX4_doesOffer 31 = .ok (.iaload, 1) := by decide +kernel
theorem dX4_doesOffer_32 : decode cX4_doesOffer 32 = .ok (.if_icmp .ne 22, 3) := by decide +kernel
theorem dX4_doesOffer_35 : decode cX4_doesOffer 35 = .ok (.aload_n 0, 1) := by decide +kernel
theorem dX4_doesOffer_36 : decode cX4_doesOffer 36 = .ok (.getfield 59, 3) := by decide +kernel
theorem dX4_doesOffer_39 : decode cX4_doesOffer 39 = .ok (.iload_n 3, 1) := by decide +kernel
theorem dX4_doesOffer_40 : decode cX4_doesOffer 40 = .ok (.iaload, 1) := by decide +kernel
theorem dX4_doesOffer_41 : decode cX4_doesOffer 41 = .ok (.aload_n 0, 1) := by decide +kernel
theorem dX4_doesOffer_42 : decode cX4_doesOffer 42 = .ok (.getfield 59, 3) := by decide +kernel
theorem dX4_doesOffer_45 : decode cX4_doesOffer 45 = .ok (.iload_n 1, 1) := by decide +kernel
theorem dX4_doesOffer_46 : decode cX4_doesOffer 46 = .ok (.iaload, 1) := by decide +kernel
theorem dX4_doesOffer_47 : decode cX4_doesOffer 47 = .ok (.if_icmp .ne 7, 3) := by decide +kernel
theorem dX4_doesOffer_50 : decode cX4_doesOffer 50 = .ok (.iconst 1, 1) := by decide +kernel
theorem dX4_doesOffer_51 : decode cX4_doesOffer 51 = .ok (.goto 4, 3) := by decide +kernel
theorem dX4_doesOffer_54 : decode cX4_doesOffer 54 = .ok (.iconst 0, 1) := by decide +kernel
theorem dX4_doesOffer_55 : decode cX4_doesOffer 55 = .ok (.istore 4, 2) := by decide +kernel
theorem dX4_doesOffer_57 : decode cX4_doesOffer 57 = .ok (.aload_n 0, 1) := by decide +kernel
theorem dX4_doesOffer_58 : decode cX4_doesOffer 58 = .ok (.getfield 47, 3) := by decide +kernel
theorem dX4_doesOffer_61 : decode cX4_doesOffer 61 = .ok (.iload_n 3, 1) := by decide +kernel
theorem dX4_doesOffer_62 : decode cX4_doesOffer 62 = .ok (.iaload, 1) := by decide +kernel
theorem dX4_doesOffer_63 : decode cX4_doesOffer 63 = .ok (.aload_n 0, 1) := by decide +kernel
theorem dX4_doesOffer_64 : decode cX4_doesOffer 64 = .ok (.getfield 59, 3) := by decide +kernel
theorem dX4_doesOffer_67 : decode cX4_doesOffer 67 = .ok (.iload_n 1, 1) := by decide +kernel
theorem dX4_doesOffer_68 : decode cX4_doesOffer 68 = .ok (.iaload, 1) := by decide +kernel
theorem dX4_doesOffer_69 : decode cX4_doesOffer 69 = .ok (.invokestatic 137, 3) := by decide +kernel
theorem dX4_doesOffer_72 : decode cX4_doesOffer 72 = .ok (.if_icmp .ne 25, 3) := by decide +kernel
theorem dX4_doesOffer_75 : decode cX4_doesOffer 75 = .ok (.aload_n 0, 1) := by decide +kernel
theorem dX4_doesOffer_76 : decode cX4_doesOffer 76 = .ok (.getfield 59, 3) := by decide +kernel
theorem dX4_doesOffer_79 : decode cX4_doesOffer 79 = .ok (.iload_n 3, 1) := by decide +kernel
theorem dX4_doesOffer_80 : decode cX4_doesOffer 80 = .ok (.iaload, 1) := by decide +kernel
theorem dX4_doesOffer_81 : decode cX4_doesOffer 81 = .ok (.invokestatic 137, 3) := by decide +kernel
theorem dX4_doesOffer_84 : decode cX4_doesOffer 84 = .ok (.aload_n 0, 1) := by decide +kernel
theorem dX4_doesOffer_85 : decode cX4_doesOffer 85 = .ok (.getfield 47, 3) := by decide +kernel
theorem dX4_doesOffer_88 : decode cX4_doesOffer 88 = .ok (.iload_n 1, 1) := by decide +kernel
theorem dX4_doesOffer_89 : decode cX4_doesOffer 89 = .ok (.iaload, 1) := by decide +kernel
theorem dX4_doesOffer_90 : decode cX4_doesOffer 90 = .ok (.if_icmp .ne 7, 3) := by decide +kernel
theorem dX4_doesOffer_93 : decode cX4_doesOffer 93 = .ok (.iconst 1, 1) := by decide +kernel
theorem dX4_doesOffer_94 : decode cX4_doesOffer 94 = .ok (.goto 4, 3) := by decide +kernel
theorem dX4_doesOffer_97 : decode cX4_doesOffer 97 = .ok (.iconst 0, 1) := by decide +kernel
theorem dX4_doesOffer_98 : decode cX4_doesOffer 98 = .ok (.istore 5, 2) := by decide +kernel
theorem dX4_doesOffer_100 : decode cX4_doesOffer 100 = .ok (.aload_n 0, 1) := by decide +kernel
theorem dX4_doesOffer_101 : decode cX4_doesOffer 101 = .ok (.getfield 74, 3) := by decide +kernel
theorem dX4_doesOffer_104 : decode cX4_doesOffer 104 = .ok (.iload_n 3, 1) := by decide +kernel
theorem dX4_doesOffer_105 : decode cX4_doesOffer 105 = .ok (.aload_n 0, 1) := by decide +kernel
theorem dX4_doesOffer_106 : decode cX4_doesOffer 106 = .ok (.getfield 74, 3) := by decide +kernel
theorem dX4_doesOffer_109 : decode cX4_doesOffer 109 = .ok (.iload_n 3, 1) := by decide +kernel
theorem dX4_doesOffer_110 : decode cX4_doesOffer 110 = .ok (.baload, 1) := by decide +kernel
theorem dX4_doesOffer_111 : decode cX4_doesOffer 111 = .ok (.ifCond .eq 17, 3) := by decide +kernel
theorem dX4_doesOffer_114 : decode cX4_doesOffer 114 = .ok (.iload 4, 2) := by decide +kernel
theorem dX4_doesOffer_116 : decode cX4_doesOffer 116 = .ok (.ifCond .ne 12, 3) := by decide +kernel
theorem dX4_doesOffer_119 : decode cX4_doesOffer 119 = .ok (.iload 5, 2) := by decide +kernel
theorem dX4_doesOffer_121 : decode cX4_doesOffer 121 = .ok (.ifCond .ne 7, 3) := by decide +kernel
theorem dX4_doesOffer_124 : decode cX4_doesOffer 124 = .ok (.iconst 1, 1) := by decide +kernel
theorem dX4_doesOffer_125 : decode cX4_doesOffer 125 = .ok (.goto 4, 3) := by decide +kernel
theorem dX4_doesOffer_128 : decode cX4_doesOffer 128 = .ok (.iconst 0, 1) := by decide +kernel
theorem dX4_doesOffer_129 : decode cX4_doesOffer 129 = .ok (.bastore, 1) := by decide +kernel
theorem dX4_doesOffer_130 : decode cX4_doesOffer 130 = .ok (.iinc 3 1, 3) := by decide +kernel
theorem dX4_doesOffer_133 : decode cX4_doesOffer 133 = .ok (.goto (-118), 3) := by decide +kernel
theorem dX4_doesOffer_136 : decode cX4_doesOffer 136 = .ok (.aload_n 0, 1) := by decide +kernel
theorem dX4_doesOffer_137 : decode cX4_doesOffer 137 = .ok (.getfield 74, 3) := by decide +kernel
theorem dX4_doesOffer_140 : decode cX4_doesOffer 140 = .ok (.iload_n 1, 1) := by decide +kernel
theorem dX4_doesOffer_141 : decode cX4_doesOffer 141 = .ok (.iconst 1, 1) := by decide +kernel
theorem dX4_doesOffer_142 : decode cX4_doesOffer 142 = .ok (.bastore, 1) := by decide +kernel
theorem dX4_doesOffer_143 : decode cX4_doesOffer 143 = .ok (.aload_n 0, 1) := by decide +kernel
theorem dX4_doesOffer_144 : decode cX4_doesOffer 144 = .ok (.aload_n 0, 1) := by decide +kernel
theorem dX4_doesOffer_145 : decode cX4_doesOffer 145 = .ok (.getfield 59, 3) := by decide +kernel
theorem dX4_doesOffer_148 : decode cX4_doesOffer 148 = .ok (.iload_n 1, 1) := by decide +kernel
theorem dX4_doesOffer_149 : decode cX4_doesOffer 149 = .ok (.iaload, 1) := by decide +kernel
theorem dX4_doesOffer_150 : decode cX4_doesOffer 150 = .ok (.invokestatic 137, 3) := by decide +kernel
theorem dX4_doesOffer_153 : decode cX4_doesOffer 153 = .ok (.invokevirtual 216, 3) := by decide +kernel
theorem dX4_doesOffer_156 : decode cX4_doesOffer 156 = .ok (.return_, 1) := by decide +kernel
theorem dX4_doesOffer_157 : decode cX4_doesOffer 157 = .ok (.aload_n 0, 1) := by decide +kernel
theorem dX4_doesOffer_158 : decode cX4_doesOffer 158 = .ok (.getfield 53, 3) := by decide +kernel
theorem dX4_doesOffer_161 : decode cX4_doesOffer 161 = .ok (.iload_n 1, 1) := by decide +kernel
theorem dX4_doesOffer_162 : decode cX4_doesOffer 162 = .ok (.iaload, 1) := by decide +kernel
theorem dX4_doesOffer_163 : decode cX4_doesOffer 163 = .ok (.istore_n 3, 1) := by decide +kernel
theorem dX4_doesOffer_164 : decode cX4_doesOffer 164 = .ok (.aload_n 0, 1) := by decide +kernel
theorem dX4_doesOffer_165 : decode cX4_doesOffer 165 = .ok (.getfield 74, 3) := by decide +kernel
theorem dX4_doesOffer_168 : decode cX4_doesOffer 168 = .ok (.iload_n 3, 1) := by decide +kernel
theorem dX4_doesOffer_169 : decode cX4_doesOffer 169 = .ok (.iconst 0, 1) := by decide +kernel
theorem dX4_doesOffer_170 : decode cX4_doesOffer 170 = .ok (.bastore, 1) := by decide +kernel
theorem dX4_doesOffer_171 : decode cX4_doesOffer 171 = .ok (.iload_n 2, 1) := by decide +kernel
theorem dX4_doesOffer_172 : decode cX4_doesOffer 172 = .ok (.bipush 14, 2) := by decide +kernel
theorem dX4_doesOffer_174 : decode cX4_doesOffer 174 = .ok (.if_icmp .ne 164, 3) := by decide +kernel
theorem dX4_doesOffer_177 : decode cX4_doesOffer 177 = .ok (.aload_n 0, 1) := by decide +kernel
theorem dX4_doesOffer_178 : decode cX4_doesOffer 178 = .ok (.aload_n 0, 1) := by decide +kernel
theorem dX4_doesOffer_179 : decode cX4_doesOffer 179 = .ok (.getfield 47, 3) := by decide +kernel
theorem dX4_doesOffer_182 : decode cX4_doesOffer 182 = .ok (.iload_n 3, 1) := by decide +kernel
theorem dX4_doesOffer_183 : decode cX4_doesOffer 183 = .ok (.iaload, 1) := by decide +kernel
theorem dX4_doesOffer_184 : decode cX4_doesOffer 184 = .ok (.aload_n 0, 1) := by decide +kernel
theorem dX4_doesOffer_185 : decode cX4_doesOffer 185 = .ok (.getfield 53, 3) := by decide +kernel
theorem dX4_doesOffer_188 : decode cX4_doesOffer 188 = .ok (.iload_n 3, 1) := by decide +kernel
theorem dX4_doesOffer_189 : decode cX4_doesOffer 189 = .ok (.iaload, 1) := by decide +kernel
theorem dX4_doesOffer_190 : decode cX4_doesOffer 190 = .ok (.invokevirtual 154, 3) := by decide +kernel
theorem dX4_doesOffer_193 : decode cX4_doesOffer 193 = .ok (.ifCond .eq 26, 3) := by decide +kernel
theorem dX4_doesOffer_196 : decode cX4_doesOffer 196 = .ok (.aload_n 0, 1) := by decide +kernel
theorem dX4_doesOffer_197 : decode cX4_doesOffer 197 = .ok (.aload_n 0, 1) := by decide +kernel
theorem dX4_doesOffer_198 : decode cX4_doesOffer 198 = .ok (.getfield 47, 3) := by decide +kernel
theorem dX4_doesOffer_201 : decode cX4_doesOffer 201 = .ok (.iload_n 1, 1) := by decide +kernel
theorem dX4_doesOffer_202 : decode cX4_doesOffer 202 = .ok (.iaload, 1) := by decide +kernel
theorem dX4_doesOffer_203 : decode cX4_doesOffer 203 = .ok (.aload_n 0, 1) := by decide +kernel
theorem dX4_doesOffer_204 : decode cX4_doesOffer 204 = .ok (.getfield 56, 3) := by decide +kernel
theorem dX4_doesOffer_207 : decode cX4_doesOffer 207 = .ok (.iload_n 3, 1) := by decide +kernel
theorem dX4_doesOffer_208 : decode cX4_doesOffer 208 = .ok (.iaload, 1) := by decide +kernel
theorem dX4_doesOffer_209 : decode cX4_doesOffer 209 = .ok (.invokevirtual 154, 3) := by decide +kernel
theorem dX4_doesOffer_212 : decode cX4_doesOffer 212 = .ok (.ifCond .eq 7, 3) := by decide +kernel
theorem dX4_doesOffer_215 : decode cX4_doesOffer 215 = .ok (.iconst 1, 1) := by decide +kernel
theorem dX4_doesOffer_216 : decode cX4_doesOffer 216 = .ok (.goto 4, 3) := by decide +kernel
theorem dX4_doesOffer_219 : decode cX4_doesOffer 219 = .ok (.iconst 0, 1) := by decide +kernel
theorem dX4_doesOffer_220 : decode cX4_doesOffer 220 = .ok (.istore 4, 2) := by decide +kernel
theorem dX4_doesOffer_222 : decode cX4_doesOffer 222 = .ok (.iconst 0, 1) := by decide +kernel
theorem dX4_doesOffer_223 : decode cX4_doesOffer 223 = .ok (.istore 5, 2) := by decide +kernel
theorem dX4_doesOffer_225 : decode cX4_doesOffer 225 = .ok (.iload 5, 2) := by decide +kernel
theorem dX4_doesOffer_227 : decode cX4_doesOffer 227 = .ok (.bipush 8, 2) := by decide +kernel
theorem dX4_doesOffer_229 : decode cX4_doesOffer 229 = .ok (.if_icmp .ge 74, 3) := by decide +kernel
theorem dX4_doesOffer_232 : decode cX4_doesOffer 232 = .ok (.iload 4, 2) := by decide +kernel
theorem dX4_doesOffer_234 : decode cX4_doesOffer 234 = .ok (.ifCond .eq 69, 3) := by decide +kernel
theorem dX4_doesOffer_237 : decode cX4_doesOffer 237 = .ok (.aload_n 0, 1) := by decide +kernel
theorem dX4_doesOffer_238 : decode cX4_doesOffer 238 = .ok (.getfield 44, 3) := by decide +kernel
theorem dX4_doesOffer_241 : decode cX4_doesOffer 241 = .ok (.iload 5, 2) := by decide +kernel
theorem dX4_doesOffer_243 : decode cX4_doesOffer 243 = .ok (.aload_n 0, 1) := by decide +kernel
theorem dX4_doesOffer_244 : decode cX4_doesOffer 244 = .ok (.getfield 53, 3) := by decide +kernel
theorem dX4_doesOffer_247 : decode cX4_doesOffer 247 = .ok (.iload_n 3, 1) := by decide +kernel
theorem dX4_doesOffer_248 : decode cX4_doesOffer 248 = .ok (.iaload, 1) := by decide +kernel
theorem dX4_doesOffer_249 : decode cX4_doesOffer 249 = .ok (.iload 5, 2) := by decide +kernel
theorem dX4_doesOffer_251 : decode cX4_doesOffer 251 = .ok (.invokestatic 114, 3) := by decide +kernel
theorem dX4_doesOffer_254 : decode cX4_doesOffer 254 = .ok (.ifCond .eq 12, 3) := by decide +kernel
theorem dX4_doesOffer_257 : decode cX4_doesOffer 257 = .ok (.aload_n 0, 1) := by decide +kernel
theorem dX4_doesOffer_258 : decode cX4_doesOffer 258 = .ok (.getfield 47, 3) := by decide +kernel
theorem dX4_doesOffer_261 : decode cX4_doesOffer 261 = .ok (.iload_n 1, 1) := by decide +kernel
theorem dX4_doesOffer_262 : decode cX4_doesOffer 262 = .ok (.iaload, 1) := by decide +kernel
theorem dX4_doesOffer_263 : decode cX4_doesOffer 263 = .ok (.goto 33, 3) := by decide +kernel
theorem dX4_doesOffer_266 : decode cX4_doesOffer 266 = .ok (.aload_n 0, 1) := by decide +kernel
theorem dX4_doesOffer_267 : decode cX4_doesOffer 267 = .ok (.getfield 56, 3) := by decide +kernel
theorem dX4_doesOffer_270 : decode cX4_doesOffer 270 = .ok (.iload_n 3, 1) := by decide +kernel
theorem dX4_doesOffer_271 : decode cX4_doesOffer 271 = .ok (.iaload, 1) := by decide +kernel
theorem dX4_doesOffer_272 : decode cX4_doesOffer 272 = .ok (.iload 5, 2) := by decide +kernel
theorem dX4_doesOffer_274 : decode cX4_doesOffer 274 = .ok (.invokestatic 114, 3) := by decide +kernel
theorem dX4_doesOffer_277 : decode cX4_doesOffer 277 = .ok (.ifCond .eq 12, 3) := by decide +kernel
theorem dX4_doesOffer_280 : decode cX4_doesOffer 280 = .ok (.aload_n 0, 1) := by decide +kernel
theorem dX4_doesOffer_281 : decode cX4_doesOffer 281 = .ok (.getfield 47, 3) := by decide +kernel
theorem dX4_doesOffer_284 : decode cX4_doesOffer 284 = .ok (.iload_n 3, 1) := by decide +kernel
theorem dX4_doesOffer_285 : decode cX4_doesOffer 285 = .ok (.iaload, 1) := by decide +kernel
theorem dX4_doesOffer_286 : decode cX4_doesOffer 286 = .ok (.goto 10, 3) := by decide +kernel
theorem dX4_doesOffer_289 : decode cX4_doesOffer 289 = .ok (.aload_n 0, 1) := by decide +kernel
theorem dX4_doesOffer_290 : decode cX4_doesOffer 290 = .ok (.getfield 44, 3) := by decide +kernel
theorem dX4_doesOffer_293 : decode cX4_doesOffer 293 = .ok (.iload 5, 2) := by decide +kernel
theorem dX4_doesOffer_295 : decode cX4_doesOffer 295 = .ok (.iaload, 1) := by decide +kernel
theorem dX4_doesOffer_296 : decode cX4_doesOffer 296 = .ok (.iastore, 1) := by decide +kernel
theorem dX4_doesOffer_297 : decode cX4_doesOffer 297 = .ok (.iinc 5 1, 3) := by decide +kernel
theorem dX4_doesOffer_300 : decode cX4_doesOffer 300 = .ok (.goto (-75), 3) := by decide +kernel
theorem dX4_doesOffer_303 : decode cX4_doesOffer 303 = .ok (.aload_n 0, 1) := by decide +kernel
theorem dX4_doesOffer_304 : decode cX4_doesOffer 304 = .ok (.getfield 56, 3) := by decide +kernel
theorem dX4_doesOffer_307 : decode cX4_doesOffer 307 = .ok (.iload_n 1, 1) := by decide +kernel
theorem dX4_doesOffer_308 : decode cX4_doesOffer 308 = .ok (.iload 4, 2) := by decide +kernel
theorem dX4_doesOffer_310 : decode cX4_doesOffer 310 = .ok (.ifCond .eq 7, 3) := by decide +kernel
theorem dX4_doesOffer_313 : decode cX4_doesOffer 313 = .ok (.iconst 1, 1) := by decide +kernel
theorem dX4_doesOffer_314 : decode cX4_doesOffer 314 = .ok (.goto 4, 3) := by decide +kernel
theorem dX4_doesOffer_317 : decode cX4_doesOffer 317 = .ok (.iconst 0, 1) := by decide +kernel
theorem dX4_doesOffer_318 : decode cX4_doesOffer 318 = .ok (.iastore, 1) := by decide +kernel
theorem dX4_doesOffer_319 : decode cX4_doesOffer 319 = .ok (.aload_n 0, 1) := by decide +kernel
theorem dX4_doesOffer_320 : decode cX4_doesOffer 320 = .ok (.dup, 1) := by decide +kernel
theorem dX4_doesOffer_321 : decode cX4_doesOffer 321 = .ok (.getfield 219, 3) := by decide +kernel
theorem dX4_doesOffer_324 : decode cX4_doesOffer 324 = .ok (.iload 4, 2) := by decide +kernel
theorem dX4_doesOffer_326 : decode cX4_doesOffer 326 = .ok (.ifCond .eq 7, 3) := by decide +kernel
theorem dX4_doesOffer_329 : decode cX4_doesOffer 329 = .ok (.iconst 1, 1) := by decide +kernel
theorem dX4_doesOffer_330 : decode cX4_doesOffer 330 = .ok (.goto 4, 3) := by decide +kernel
theorem dX4_doesOffer_333 : decode cX4_doesOffer 333 = .ok (.iconst 0, 1) := by decide +kernel
theorem dX4_doesOffer_334 : decode cX4_doesOffer 334 = .ok (.iadd, 1) := by decide +kernel
theorem dX4_doesOffer_335 : decode cX4_doesOffer 335 = .ok (.putfield 219, 3) := by decide +kernel
theorem dX4_doesOffer_338 : decode cX4_doesOffer 338 = .ok (.return_, 1) := by decide +kernel
theorem dX4_acks_0 : decode cX4_acks 0 = .ok (.iconst 0, 1) := by decide +kernel
theorem dX4_acks_1 : decode cX4_acks 1 = .ok (.istore_n 1, 1) := by decide +kernel
theorem dX4_acks_2 : decode cX4_acks 2 = .ok (.iload_n 1, 1) := by decide +kernel
theorem dX4_acks_3 : decode cX4_acks 3 = .ok (.iconst 4, 1) := by decide +kernel
theorem dX4_acks_4 : decode cX4_acks 4 = .ok (.if_icmp .ge 51, 3) := by decide +kernel
theorem dX4_acks_7 : decode cX4_acks 7 = .ok (.aload_n 0, 1) := by decide +kernel
theorem dX4_acks_8 : decode cX4_acks 8 = .ok (.getfield 83, 3) := by decide +kernel
theorem dX4_acks_11 : decode cX4_acks 11 = .ok (.iload_n 1, 1) := by decide +kernel
theorem dX4_acks_12 : decode cX4_acks 12 = .ok (.iaload, 1) := by decide +kernel
theorem dX4_acks_13 : decode cX4_acks 13 = .ok (.iconst (-1), 1) := by decide +kernel
theorem dX4_acks_14 : decode cX4_acks 14 = .ok (.if_icmp .eq 35, 3) := by decide +kernel
theorem dX4_acks_17 : decode cX4_acks 17 = .ok (.aload_n 0, 1) := by decide +kernel
theorem dX4_acks_18 : decode cX4_acks 18 = .ok (.getfield 50, 3) := by decide +kernel
theorem dX4_acks_21 : decode cX4_acks 21 = .ok (.aload_n 0, 1) := by decide +kernel
theorem dX4_acks_22 : decode cX4_acks 22 = .ok (.getfield 83, 3) := by decide +kernel
theorem dX4_acks_25 : decode cX4_acks 25 = .ok (.iload_n 1, 1) := by decide +kernel
theorem dX4_acks_26 : decode cX4_acks 26 = .ok (.iaload, 1) := by decide +kernel
theorem dX4_acks_27 : decode cX4_acks 27 = .ok (.iaload, 1) := by decide +kernel
theorem dX4_acks_28 : decode cX4_acks 28 = .ok (.iconst 4, 1) := by decide +kernel
theorem dX4_acks_29 : decode cX4_acks 29 = .ok (.if_icmp .ne 20, 3) := by decide +kernel
theorem dX4_acks_32 : decode cX4_acks 32 = .ok (.aload_n 0, 1) := by decide +kernel
theorem dX4_acks_33 : decode cX4_acks 33 = .ok (.aload_n 0, 1) := by decide +kernel
theorem dX4_acks_34 : decode cX4_acks 34 = .ok (.getfield 83, 3) := by decide +kernel
theorem dX4_acks_37 : decode cX4_acks 37 = .ok (.iload_n 1, 1) := by decide +kernel
theorem dX4_acks_38 : decode cX4_acks 38 = .ok (.iaload, 1) := by decide +kernel
theorem dX4_acks_39 : decode cX4_acks 39 = .ok (.invokevirtual 222, 3) := by decide +kernel
theorem dX4_acks_42 : decode cX4_acks 42 = .ok (.aload_n 0, 1) := by decide +kernel
theorem dX4_acks_43 : decode cX4_acks 43 = .ok (.getfield 83, 3) := by decide +kernel
theorem dX4_acks_46 : decode cX4_acks 46 = .ok (.iload_n 1, 1) := by decide +kernel
theorem dX4_acks_47 : decode cX4_acks 47 = .ok (.iconst (-1), 1) := by decide +kernel
theorem dX4_acks_48 : decode cX4_acks 48 = .ok (.iastore, 1) := by decide +kernel
theorem dX4_acks_49 : decode cX4_acks 49 = .ok (.iinc 1 1, 3) := by decide +kernel
theorem dX4_acks_52 : decode cX4_acks 52 = .ok (.goto (-50), 3) := by decide +kernel
theorem dX4_acks_55 : decode cX4_acks 55 = .ok (.return_, 1) := by decide +kernel
theorem dX4_holder_0 : decode cX4_holder 0 = .ok (.aload_n 0, 1) := by decide +kernel
theorem dX4_holder_1 : decode cX4_holder 1 = .ok (.getfield 95, 3) := by decide +kernel
theorem dX4_holder_4 : decode cX4_holder 4 = .ok (.iconst (-1), 1) := by decide +kernel
theorem dX4_holder_5 : decode cX4_holder 5 = .ok (.if_icmp .eq 21, 3) := by decide +kernel
theorem dX4_holder_8 : decode cX4_holder 8 = .ok (.aload_n 0, 1) := by decide +kernel
theorem dX4_holder_9 : decode cX4_holder 9 = .ok (.getfield 121, 3) := by decide +kernel
theorem dX4_holder_12 : decode cX4_holder 12 = .ok (.aload_n 0, 1) := by decide +kernel
theorem dX4_holder_13 : decode cX4_holder 13 = .ok (.getfield 190, 3) := by decide +kernel
theorem dX4_holder_16 : decode cX4_holder 16 = .ok (.if_icmp .gt 10, 3) := by decide +kernel
theorem dX4_holder_19 : decode cX4_holder 19 = .ok (.aload_n 0, 1) := by decide +kernel
theorem dX4_holder_20 : decode cX4_holder 20 = .ok (.getfield 95, 3) := by decide +kernel
theorem dX4_holder_23 : decode cX4_holder 23 = .ok (.goto 4, 3) := by decide +kernel
theorem dX4_holder_26 : decode cX4_holder 26 = .ok (.iconst (-1), 1) := by decide +kernel
theorem dX4_holder_27 : decode cX4_holder 27 = .ok (.ireturn, 1) := by decide +kernel
theorem dX4_floor_0 : decode cX4_floor 0 = .ok (.aload_n 0, 1) := by decide +kernel
theorem dX4_floor_1 : decode cX4_floor 1 = .ok (.invokevirtual 225, 3) := by decide +kernel
theorem dX4_floor_4 : decode cX4_floor 4 = .ok (.iconst (-1), 1) := by decide +kernel
theorem dX4_floor_5 : decode cX4_floor 5 = .ok (.if_icmp .eq 23, 3) := by decide +kernel
theorem dX4_floor_8 : decode cX4_floor 8 = .ok (.aload_n 0, 1) := by decide +kernel
theorem dX4_floor_9 : decode cX4_floor 9 = .ok (.getfield 83, 3) := by decide +kernel
theorem dX4_floor_12 : decode cX4_floor 12 = .ok (.aload_n 0, 1) := by decide +kernel
theorem dX4_floor_13 : decode cX4_floor 13 = .ok (.invokevirtual 225, 3) := by decide +kernel
theorem dX4_floor_16 : decode cX4_floor 16 = .ok (.iaload, 1) := by decide +kernel
theorem dX4_floor_17 : decode cX4_floor 17 = .ok (.iconst (-1), 1) := by decide +kernel
theorem dX4_floor_18 : decode cX4_floor 18 = .ok (.if_icmp .eq 10, 3) := by decide +kernel
theorem dX4_floor_21 : decode cX4_floor 21 = .ok (.aload_n 0, 1) := by decide +kernel
theorem dX4_floor_22 : decode cX4_floor 22 = .ok (.invokevirtual 225, 3) := by decide +kernel
theorem dX4_floor_25 : decode cX4_floor 25 = .ok (.goto 4, 3) := by decide +kernel
theorem dX4_floor_28 : decode cX4_floor 28 = .ok (.iconst (-1), 1) := by decide +kernel
theorem dX4_floor_29 : decode cX4_floor 29 = .ok (.istore_n 1, 1) := by decide +kernel
theorem dX4_floor_30 : decode cX4_floor 30 = .ok (.iconst 0, 1) := by decide +kernel
theorem dX4_floor_31 : decode cX4_floor 31 = .ok (.istore_n 2, 1) := by decide +kernel
theorem dX4_floor_32 : decode cX4_floor 32 = .ok (.iload_n 2, 1) := by decide +kernel
theorem dX4_floor_33 : decode cX4_floor 33 = .ok (.iconst 4, 1) := by decide +kernel
theorem dX4_floor_34 : decode cX4_floor 34 = .ok (.if_icmp .ge 58, 3) := by decide +kernel
theorem dX4_floor_37 : decode cX4_floor 37 = .ok (.iload_n 1, 1) := by decide +kernel
theorem dX4_floor_38 : decode cX4_floor 38 = .ok (.iconst (-1), 1) := by decide +kernel
theorem dX4_floor_39 : decode cX4_floor 39 = .ok (.if_icmp .eq 11, 3) := by decide +kernel
theorem dX4_floor_42 : decode cX4_floor 42 = .ok (.iload_n 1, 1) := by decide +kernel
theorem dX4_floor_43 : decode cX4_floor 43 = .ok (.aload_n 0, 1) := by decide +kernel
theorem dX4_floor_44 : decode cX4_floor 44 = .ok (.invokevirtual 225, 3) := by decide +kernel
theorem dX4_floor_47 : decode cX4_floor 47 = .ok (.if_icmp .eq 45, 3) := by decide +kernel
theorem dX4_floor_50 : decode cX4_floor 50 = .ok (.aload_n 0, 1) := by decide +kernel
theorem dX4_floor_51 : decode cX4_floor 51 = .ok (.getfield 83, 3) := by decide +kernel
theorem dX4_floor_54 : decode cX4_floor 54 = .ok (.iload_n 2, 1) := by decide +kernel
theorem dX4_floor_55 : decode cX4_floor 55 = .ok (.iaload, 1) := by decide +kernel
theorem dX4_floor_56 : decode cX4_floor 56 = .ok (.iconst (-1), 1) := by decide +kernel
theorem dX4_floor_57 : decode cX4_floor 57 = .ok (.if_icmp .eq 27, 3) := by decide +kernel
theorem dX4_floor_60 : decode cX4_floor 60 = .ok (.iload_n 1, 1) := by decide +kernel
theorem dX4_floor_61 : decode cX4_floor 61 = .ok (.iconst (-1), 1) := by decide +kernel
theorem dX4_floor_62 : decode cX4_floor 62 = .ok (.if_icmp .eq 18, 3) := by decide +kernel
theorem dX4_floor_65 : decode cX4_floor 65 = .ok (.aload_n 0, 1) := by decide +kernel
theorem dX4_floor_66 : decode cX4_floor 66 = .ok (.getfield 7, 3) := by decide +kernel
theorem dX4_floor_69 : decode cX4_floor 69 = .ok (.iload_n 2, 1) := by decide +kernel
theorem dX4_floor_70 : decode cX4_floor 70 = .ok (.iaload, 1) := by decide +kernel
theorem dX4_floor_71 : decode cX4_floor 71 = .ok (.aload_n 0, 1) := by decide +kernel
theorem dX4_floor_72 : decode cX4_floor 72 = .ok (.getfield 7, 3) := by decide +kernel
theorem dX4_floor_75 : decode cX4_floor 75 = .ok (.iload_n 1, 1) := by decide +kernel
theorem dX4_floor_76 : decode cX4_floor 76 = .ok (.iaload, 1) := by decide +kernel
theorem dX4_floor_77 : decode cX4_floor 77 = .ok (.if_icmp .le 7, 3) := by decide +kernel
theorem dX4_floor_80 : decode cX4_floor 80 = .ok (.iload_n 2, 1) := by decide +kernel
theorem dX4_floor_81 : decode cX4_floor 81 = .ok (.goto 4, 3) := by decide +kernel
theorem dX4_floor_84 : decode cX4_floor 84 = .ok (.iload_n 1, 1) := by decide +kernel
theorem dX4_floor_85 : decode cX4_floor 85 = .ok (.istore_n 1, 1) := by decide +kernel
theorem dX4_floor_86 : decode cX4_floor 86 = .ok (.iinc 2 1, 3) := by decide +kernel
theorem dX4_floor_89 : decode cX4_floor 89 = .ok (.goto (-57), 3) := by decide +kernel
theorem dX4_floor_92 : decode cX4_floor 92 = .ok (.iload_n 1, 1) := by decide +kernel
theorem dX4_floor_93 : decode cX4_floor 93 = .ok (.iconst (-1), 1) := by decide +kernel
theorem dX4_floor_94 : decode cX4_floor 94 = .ok (.if_icmp .ne 7, 3) := by decide +kernel
theorem dX4_floor_97 : decode cX4_floor 97 = .ok (.iconst (-1), 1) := by decide +kernel
theorem dX4_floor_98 : decode cX4_floor 98 = .ok (.goto 9, 3) := by decide +kernel
theorem dX4_floor_101 : decode cX4_floor 101 = .ok (.aload_n 0, 1) := by decide +kernel
theorem dX4_floor_102 : decode cX4_floor 102 = .ok (.getfield 83, 3) := by decide +kernel
theorem dX4_floor_105 : decode cX4_floor 105 = .ok (.iload_n 1, 1) := by decide +kernel
theorem dX4_floor_106 : decode cX4_floor 106 = .ok (.iaload, 1) := by decide +kernel
theorem dX4_floor_107 : decode cX4_floor 107 = .ok (.istore_n 2, 1) := by decide +kernel
theorem dX4_floor_108 : decode cX4_floor 108 = .ok (.iconst 0, 1) := by decide +kernel
theorem dX4_floor_109 : decode cX4_floor 109 = .ok (.istore_n 3, 1) := by decide +kernel
theorem dX4_floor_110 : decode cX4_floor 110 = .ok (.iload_n 3, 1) := by decide +kernel
theorem dX4_floor_111 : decode cX4_floor 111 = .ok (.iconst 4, 1) := by decide +kernel
theorem dX4_floor_112 : decode cX4_floor 112 = .ok (.if_icmp .ge 43, 3) := by decide +kernel
theorem dX4_floor_115 : decode cX4_floor 115 = .ok (.aload_n 0, 1) := by decide +kernel
theorem dX4_floor_116 : decode cX4_floor 116 = .ok (.getfield 83, 3) := by decide +kernel
theorem dX4_floor_119 : decode cX4_floor 119 = .ok (.iload_n 3, 1) := by decide +kernel
theorem dX4_floor_120 : decode cX4_floor 120 = .ok (.iaload, 1) := by decide +kernel
theorem dX4_floor_121 : decode cX4_floor 121 = .ok (.iconst (-1), 1) := by decide +kernel
theorem dX4_floor_122 : decode cX4_floor 122 = .ok (.if_icmp .eq 20, 3) := by decide +kernel
theorem dX4_floor_125 : decode cX4_floor 125 = .ok (.iload_n 3, 1) := by decide +kernel
theorem dX4_floor_126 : decode cX4_floor 126 = .ok (.iload_n 1, 1) := by decide +kernel
theorem dX4_floor_127 : decode cX4_floor 127 = .ok (.if_icmp .eq 15, 3) := by decide +kernel
theorem dX4_floor_130 : decode cX4_floor 130 = .ok (.aload_n 0, 1) := by decide +kernel
theorem dX4_floor_131 : decode cX4_floor 131 = .ok (.getfield 65, 3) := by decide +kernel
theorem dX4_floor_134 : decode cX4_floor 134 = .ok (.aload_n 0, 1) := by decide +kernel
theorem dX4_floor_135 : decode cX4_floor 135 = .ok (.getfield 83, 3) := by decide +kernel
theorem dX4_floor_138 : decode cX4_floor 138 = .ok (.iload_n 3, 1) := by decide +kernel
theorem dX4_floor_139 : decode cX4_floor 139 = .ok (.iaload, 1) := by decide +kernel
theorem dX4_floor_140 : decode cX4_floor 140 = .ok (.iconst 2, 1) := by decide +kernel
theorem dX4_floor_141 : decode cX4_floor 141 = .ok (.iastore, 1) := by decide +kernel
theorem dX4_floor_142 : decode cX4_floor 142 = .ok (.aload_n 0, 1) := by decide +kernel
theorem dX4_floor_143 : decode cX4_floor 143 = .ok (.getfield 83, 3) := by decide +kernel
theorem dX4_floor_146 : decode cX4_floor 146 = .ok (.iload_n 3, 1) := by decide +kernel
theorem dX4_floor_147 : decode cX4_floor 147 = .ok (.iconst (-1), 1) := by decide +kernel
theorem dX4_floor_148 : decode cX4_floor 148 = .ok (.iastore, 1) := by decide +kernel
theorem dX4_floor_149 : decode cX4_floor 149 = .ok (.iinc 3 1, 3) := by decide +kernel
theorem dX4_floor_152 : decode cX4_floor 152 = .ok (.goto (-42), 3) := by decide +kernel
theorem dX4_floor_155 : decode cX4_floor 155 = .ok (.iload_n 2, 1) := by decide +kernel
theorem dX4_floor_156 : decode cX4_floor 156 = .ok (.iconst (-1), 1) := by decide +kernel
theorem dX4_floor_157 : decode cX4_floor 157 = .ok (.if_icmp .eq 8, 3) := by decide +kernel
theorem dX4_floor_160 : decode cX4_floor 160 = .ok (.aload_n 0, 1) := by decide +kernel
theorem dX4_floor_161 : decode cX4_floor 161 = .ok (.iload_n 2, 1) := by decide +kernel
theorem dX4_floor_162 : decode cX4_floor 162 = .ok (.invokevirtual 222, 3) := by decide +kernel
theorem dX4_floor_165 : decode cX4_floor 165 = .ok (.return_, 1) := by decide +kernel
theorem dX4_isTaken_0 : decode cX4_isTaken 0 = .ok (.iconst 0, 1) := by decide +kernel
theorem dX4_isTaken_1 : decode cX4_isTaken 1 = .ok (.istore_n 2, 1) := by decide +kernel
theorem dX4_isTaken_2 : decode cX4_isTaken 2 = .ok (.iconst 0, 1) := by decide +kernel
theorem dX4_isTaken_3 : decode cX4_isTaken 3 = .ok (.istore_n 3, 1) := by decide +kernel
theorem dX4_isTaken_4 : decode cX4_isTaken 4 = .ok (.iload_n 3, 1) := by decide +kernel
theorem dX4_isTaken_5 : decode cX4_isTaken 5 = .ok (.iconst 4, 1) := by decide +kernel
theorem dX4_isTaken_6 : decode cX4_isTaken 6 = .ok (.if_icmp .ge 33, 3) := by decide +kernel
theorem dX4_isTaken_9 : decode cX4_isTaken 9 = .ok (.iload_n 2, 1) := by decide +kernel
theorem dX4_isTaken_10 : decode cX4_isTaken 10 = .ok (.ifCond .ne 17, 3) := by decide +kernel
theorem dX4_isTaken_13 : decode cX4_isTaken 13 = .ok (.aload_n 0, 1) := by decide +kernel
theorem dX4_isTaken_14 : decode cX4_isTaken 14 = .ok (.getfield 77, 3) := by decide +kernel
theorem dX4_isTaken_17 : decode cX4_isTaken 17 = .ok (.iconst 4, 1) := by decide +kernel
theorem dX4_isTaken_18 : decode cX4_isTaken 18 = .ok (.iload_n 1, 1) := by decide +kernel
theorem dX4_isTaken_19 : decode cX4_isTaken 19 = .ok (.imul, 1) := by decide +kernel
theorem dX4_isTaken_20 : decode cX4_isTaken 20 = .ok (.iload_n 3, 1) := by decide +kernel
theorem dX4_isTaken_21 : decode cX4_isTaken 21 = .ok (.iadd, 1) := by decide +kernel
theorem dX4_isTaken_22 : decode cX4_isTaken 22 = .ok (.iaload, 1) := by decide +kernel
theorem dX4_isTaken_23 : decode cX4_isTaken 23 = .ok (.iconst 4, 1) := by decide +kernel
theorem dX4_isTaken_24 : decode cX4_isTaken 24 = .ok (.if_icmp .ne 7, 3) := by decide +kernel
theorem dX4_isTaken_27 : decode cX4_isTaken 27 = .ok (.iconst 1, 1) := by decide +kernel
theorem dX4_isTaken_28 : decode cX4_isTaken 28 = .ok (.goto 4, 3) := by decide +kernel
theorem dX4_isTaken_31 : decode cX4_isTaken 31 = .ok (.iconst 0, 1) := by decide +kernel
theorem dX4_isTaken_32 : decode cX4_isTaken 32 = .ok (.istore_n 2, 1) := by decide +kernel
theorem dX4_isTaken_33 : decode cX4_isTaken 33 = .ok (.iinc 3 1, 3) := by decide +kernel
theorem dX4_isTaken_36 : decode cX4_isTaken 36 = .ok (.goto (-32), 3) := by decide +kernel
theorem dX4_isTaken_39 : decode cX4_isTaken 39 = .ok (.iload_n 2, 1) := by decide +kernel
theorem dX4_isTaken_40 : decode cX4_isTaken 40 = .ok (.ireturn, 1) := by decide +kernel
theorem dX4_hardens_0 : decode cX4_hardens 0 = .ok (.iconst 0, 1) := by decide +kernel
theorem dX4_hardens_1 : decode cX4_hardens 1 = .ok (.istore_n 1, 1) := by decide +kernel
theorem dX4_hardens_2 : decode cX4_hardens 2 = .ok (.iload_n 1, 1) := by decide +kernel
theorem dX4_hardens_3 : decode cX4_hardens 3 = .ok (.bipush 40, 2) := by decide +kernel
theorem dX4_hardens_5 : decode cX4_hardens 5 = .ok (.if_icmp .ge 84, 3) := by decide +kernel
theorem dX4_hardens_8 : decode cX4_hardens 8 = .ok (.aload_n 0, 1) := by decide +kernel
theorem dX4_hardens_9 : decode cX4_hardens 9 = .ok (.getfield 35, 3) := by decide +kernel
theorem dX4_hardens_12 : decode cX4_hardens 12 = .ok (.iload_n 1, 1) := by decide +kernel
theorem dX4_hardens_13 : decode cX4_hardens 13 = .ok (.iaload, 1) := by decide +kernel
theorem dX4_hardens_14 : decode cX4_hardens 14 = .ok (.ifCond .eq 69, 3) := by decide +kernel
theorem dX4_hardens_17 : decode cX4_hardens 17 = .ok (.aload_n 0, 1) := by decide +kernel
theorem dX4_hardens_18 : decode cX4_hardens 18 = .ok (.getfield 121, 3) := by decide +kernel
theorem dX4_hardens_21 : decode cX4_hardens 21 = .ok (.aload_n 0, 1) := by decide +kernel
theorem dX4_hardens_22 : decode cX4_hardens 22 = .ok (.getfield 68, 3) := by decide +kernel
theorem dX4_hardens_25 : decode cX4_hardens 25 = .ok (.aload_n 0, 1) := by decide +kernel
theorem dX4_hardens_26 : decode cX4_hardens 26 = .ok (.getfield 38, 3) := by decide +kernel
theorem dX4_hardens_29 : decode cX4_hardens 29 = .ok (.iload_n 1, 1) := by decide +kernel
theorem dX4_hardens_30 : decode cX4_hardens 30 = .ok (.iaload, 1) := by decide +kernel
theorem dX4_hardens_31 : decode cX4_hardens 31 = .ok (.iaload, 1) := by decide +kernel
theorem dX4_hardens_32 : decode cX4_hardens 32 = .ok (.isub, 1) := by decide +kernel
theorem dX4_hardens_33 : decode cX4_hardens 33 = .ok (.iconst 5, 1) := by decide +kernel
theorem dX4_hardens_34 : decode cX4_hardens 34 = .ok (.if_icmp .lt 49, 3) := by decide +kernel
theorem dX4_hardens_37 : decode cX4_hardens 37 = .ok (.aload_n 0, 1) := by decide +kernel
theorem dX4_hardens_38 : decode cX4_hardens 38 = .ok (.getfield 35, 3) := by decide +kernel
theorem dX4_hardens_41 : decode cX4_hardens 41 = .ok (.iload_n 1, 1) := by decide +kernel
theorem dX4_hardens_42 : decode cX4_hardens 42 = .ok (.iaload, 1) := by decide +kernel
theorem dX4_hardens_43 : decode cX4_hardens 43 = .ok (.istore_n 2, 1) := by decide +kernel
theorem dX4_hardens_44 : decode cX4_hardens 44 = .ok (.aload_n 0, 1) := by decide +kernel
theorem dX4_hardens_45 : decode cX4_hardens 45 = .ok (.getfield 35, 3) := by decide +kernel
theorem dX4_hardens_48 : decode cX4_hardens 48 = .ok (.iload_n 1, 1) := by decide +kernel
theorem dX4_hardens_49 : decode cX4_hardens 49 = .ok (.iconst 0, 1) := by decide +kernel
theorem dX4_hardens_50 : decode cX4_hardens 50 = .ok (.iastore, 1) := by decide +kernel
theorem dX4_hardens_51 : decode cX4_hardens 51 = .ok (.aload_n 0, 1) := by decide +kernel
theorem dX4_hardens_52 : decode cX4_hardens 52 = .ok (.aload_n 0, 1) := by decide +kernel
theorem dX4_hardens_53 : decode cX4_hardens 53 = .ok (.getfield 38, 3) := by decide +kernel
theorem dX4_hardens_56 : decode cX4_hardens 56 = .ok (.iload_n 1, 1) := by decide +kernel
theorem dX4_hardens_57 : decode cX4_hardens 57 = .ok (.iaload, 1) := by decide +kernel
theorem dX4_hardens_58 : decode cX4_hardens 58 = .ok (.invokevirtual 228, 3) := by decide +kernel
theorem dX4_hardens_61 : decode cX4_hardens 61 = .ok (.ifCond .eq 22, 3) := by decide +kernel
theorem dX4_hardens_64 : decode cX4_hardens 64 = .ok (.aload_n 0, 1) := by decide +kernel
theorem dX4_hardens_65 : decode cX4_hardens 65 = .ok (.iload_n 1, 1) := by decide +kernel
theorem dX4_hardens_66 : decode cX4_hardens 66 = .ok (.bipush 10, 2) := by decide +kernel
theorem dX4_hardens_68 : decode cX4_hardens 68 = .ok (.idiv, 1) := by decide +kernel
theorem dX4_hardens_69 : decode cX4_hardens 69 = .ok (.iload_n 1, 1) := by decide +kernel
theorem dX4_hardens_70 : decode cX4_hardens 70 = .ok (.bipush 10, 2) := by decide +kernel
theorem dX4_hardens_72 : decode cX4_hardens 72 = .ok (.irem, 1) := by decide +kernel
theorem dX4_hardens_73 : decode cX4_hardens 73 = .ok (.iload_n 2, 1) := by decide +kernel
theorem dX4_hardens_74 : decode cX4_hardens 74 = .ok (.aload_n 0, 1) := by decide +kernel
theorem dX4_hardens_75 : decode cX4_hardens 75 = .ok (.getfield 38, 3) := by decide +kernel
theorem dX4_hardens_78 : decode cX4_hardens 78 = .ok (.iload_n 1, 1) := by decide +kernel
theorem dX4_hardens_79 : decode cX4_hardens 79 = .ok (.iaload, 1) := by decide +kernel
theorem dX4_hardens_80 : decode cX4_hardens 80 = .ok (.invokevirtual 183, 3) := by decide +kernel
theorem dX4_hardens_83 : decode cX4_hardens 83 = .ok (.iinc 1 1, 3) := by decide +kernel
theorem dX4_hardens_86 : decode cX4_hardens 86 = .ok (.goto (-84), 3) := by decide +kernel
theorem dX4_hardens_89 : decode cX4_hardens 89 = .ok (.return_, 1) := by decide +kernel
theorem dX4_silence_0 : decode cX4_silence 0 = .ok (.iconst 0, 1) := by decide +kernel
theorem dX4_silence_1 : decode cX4_silence 1 = .ok (.istore_n 1, 1) := by decide +kernel
theorem dX4_silence_2 : decode cX4_silence 2 = .ok (.iload_n 1, 1) := by decide +kernel
theorem dX4_silence_3 : decode cX4_silence 3 = .ok (.iconst 4, 1) := by decide +kernel
theorem dX4_silence_4 : decode cX4_silence 4 = .ok (.aload_n 0, 1) := by decide +kernel
theorem dX4_silence_5 : decode cX4_silence 5 = .ok (.getfield 131, 3) := by decide +kernel
theorem dX4_silence_8 : decode cX4_silence 8 = .ok (.imul, 1) := by decide +kernel
theorem dX4_silence_9 : decode cX4_silence 9 = .ok (.if_icmp .ge 125, 3) := by decide +kernel
theorem dX4_silence_12 : decode cX4_silence 12 = .ok (.aload_n 0, 1) := by decide +kernel
theorem dX4_silence_13 : decode cX4_silence 13 = .ok (.getfield 124, 3) := by decide +kernel
theorem dX4_silence_16 : decode cX4_silence 16 = .ok (.ifCond .eq 118, 3) := by decide +kernel
theorem dX4_silence_19 : decode cX4_silence 19 = .ok (.iload_n 1, 1) := by decide +kernel
theorem dX4_silence_20 : decode cX4_silence 20 = .ok (.iconst 4, 1) := by decide +kernel
theorem dX4_silence_21 : decode cX4_silence 21 = .ok (.idiv, 1) := by decide +kernel
theorem dX4_silence_22 : decode cX4_silence 22 = .ok (.istore_n 2, 1) := by decide +kernel
theorem dX4_silence_23 : decode cX4_silence 23 = .ok (.aload_n 0, 1) := by decide +kernel
theorem dX4_silence_24 : decode cX4_silence 24 = .ok (.getfield 77, 3) := by decide +kernel
theorem dX4_silence_27 : decode cX4_silence 27 = .ok (.iload_n 1, 1) := by decide +kernel
theorem dX4_silence_28 : decode cX4_silence 28 = .ok (.iaload, 1) := by decide +kernel
theorem dX4_silence_29 : decode cX4_silence 29 = .ok (.iconst 3, 1) := by decide +kernel
theorem dX4_silence_30 : decode cX4_silence 30 = .ok (.if_icmp .lt 98, 3) := by decide +kernel
theorem dX4_silence_33 : decode cX4_silence 33 = .ok (.aload_n 0, 1) := by decide +kernel
theorem dX4_silence_34 : decode cX4_silence 34 = .ok (.getfield 121, 3) := by decide +kernel
theorem dX4_silence_37 : decode cX4_silence 37 = .ok (.aload_n 0, 1) := by decide +kernel
theorem dX4_silence_38 : decode cX4_silence 38 = .ok (.getfield 80, 3) := by decide +kernel
theorem dX4_silence_41 : decode cX4_silence 41 = .ok (.iload_n 1, 1) := by decide +kernel
theorem dX4_silence_42 : decode cX4_silence 42 = .ok (.iaload, 1) := by decide +kernel
theorem dX4_silence_43 : decode cX4_silence 43 = .ok (.isub, 1) := by decide +kernel
theorem dX4_silence_44 : decode cX4_silence 44 = .ok (.bipush 6, 2) := by decide +kernel
theorem dX4_silence_46 : decode cX4_silence 46 = .ok (.if_icmp .ne 82, 3) := by decide +kernel
theorem dX4_silence_49 : decode cX4_silence 49 = .ok (.aload_n 0, 1) := by decide +kernel
theorem dX4_silence_50 : decode cX4_silence 50 = .ok (.iload_n 2, 1) := by decide +kernel
theorem dX4_silence_51 : decode cX4_silence 51 = .ok (.invokevirtual 151, 3) := by decide +kernel
theorem dX4_silence_54 : decode cX4_silence 54 = .ok (.ifCond .eq 74, 3) := by decide +kernel
theorem dX4_silence_57 : decode cX4_silence 57 = .ok (.aload_n 0, 1) := by decide +kernel
theorem dX4_silence_58 : decode cX4_silence 58 = .ok (.getfield 29, 3) := by decide +kernel
theorem dX4_silence_61 : decode cX4_silence 61 = .ok (.bipush 10, 2) := by decide +kernel
theorem dX4_silence_63 : decode cX4_silence 63 = .ok (.iload_n 1, 1) := by decide +kernel
theorem dX4_silence_64 : decode cX4_silence 64 = .ok (.iconst 4, 1) := by decide +kernel
theorem dX4_silence_65 : decode cX4_silence 65 = .ok (.irem, 1) := by decide +kernel
theorem dX4_silence_66 : decode cX4_silence 66 = .ok (.imul, 1) := by decide +kernel
theorem dX4_silence_67 : decode cX4_silence 67 = .ok (.aload_n 0, 1) := by decide +kernel
theorem dX4_silence_68 : decode cX4_silence 68 = .ok (.getfield 53, 3) := by decide +kernel
theorem dX4_silence_71 : decode cX4_silence 71 = .ok (.iload_n 2, 1) := by decide +kernel
theorem dX4_silence_72 : decode cX4_silence 72 = .ok (.iaload, 1) := by decide +kernel
theorem dX4_silence_73 : decode cX4_silence 73 = .ok (.iadd, 1) := by decide +kernel
theorem dX4_silence_74 : decode cX4_silence 74 = .ok (.iaload, 1) := by decide +kernel
theorem dX4_silence_75 : decode cX4_silence 75 = .ok (.ifCond .ne 53, 3) := by decide +kernel
theorem dX4_silence_78 : decode cX4_silence 78 = .ok (.aload_n 0, 1) := by decide +kernel
theorem dX4_silence_79 : decode cX4_silence 79 = .ok (.getfield 29, 3) := by decide +kernel
theorem dX4_silence_82 : decode cX4_silence 82 = .ok (.bipush 10, 2) := by decide +kernel
theorem dX4_silence_84 : decode cX4_silence 84 = .ok (.aload_n 0, 1) := by decide +kernel
theorem dX4_silence_85 : decode cX4_silence 85 = .ok (.getfield 47, 3) := by decide +kernel
theorem dX4_silence_88 : decode cX4_silence 88 = .ok (.iload_n 2, 1) := by decide +kernel
theorem dX4_silence_89 : decode cX4_silence 89 = .ok (.iaload, 1) := by decide +kernel
theorem dX4_silence_90 : decode cX4_silence 90 = .ok (.imul, 1) := by decide +kernel
theorem dX4_silence_91 : decode cX4_silence 91 = .ok (.aload_n 0, 1) := by decide +kernel
theorem dX4_silence_92 : decode cX4_silence 92 = .ok (.getfield 53, 3) := by decide +kernel
theorem dX4_silence_95 : decode cX4_silence 95 = .ok (.iload_n 2, 1) := by decide +kernel
theorem dX4_silence_96 : decode cX4_silence 96 = .ok (.iaload, 1) := by decide +kernel
theorem dX4_silence_97 : decode cX4_silence 97 = .ok (.iadd, 1) := by decide +kernel
theorem dX4_silence_98 : decode cX4_silence 98 = .ok (.iaload, 1) := by decide +kernel
theorem dX4_silence_99 : decode cX4_silence 99 = .ok (.aload_n 0, 1) := by decide +kernel
theorem dX4_silence_100 : decode cX4_silence 100 = .ok (.getfield 56, 3) := by decide +kernel
theorem dX4_silence_103 : decode cX4_silence 103 = .ok (.iload_n 2, 1) := by decide +kernel
theorem dX4_silence_104 : decode cX4_silence 104 = .ok (.iaload, 1) := by decide +kernel
theorem dX4_silence_105 : decode cX4_silence 105 = .ok (.if_icmp .ne 23, 3) := by decide +kernel
theorem dX4_silence_108 : decode cX4_silence 108 = .ok (.aload_n 0, 1) := by decide +kernel
theorem dX4_silence_109 : decode cX4_silence 109 = .ok (.iload_n 1, 1) := by decide +kernel
theorem dX4_silence_110 : decode cX4_silence 110 = .ok (.iconst 4, 1) := by decide +kernel
theorem dX4_silence_111 : decode cX4_silence 111 = .ok (.irem, 1) := by decide +kernel
theorem dX4_silence_112 : decode cX4_silence 112 = .ok (.aload_n 0, 1) := by decide +kernel
theorem dX4_silence_113 : decode cX4_silence 113 = .ok (.getfield 53, 3) := by decide +kernel
theorem dX4_silence_116 : decode cX4_silence 116 = .ok (.iload_n 2, 1) := by decide +kernel
theorem dX4_silence_117 : decode cX4_silence 117 = .ok (.iaload, 1) := by decide +kernel
theorem dX4_silence_118 : decode cX4_silence 118 = .ok (.aload_n 0, 1) := by decide +kernel
theorem dX4_silence_119 : decode cX4_silence 119 = .ok (.getfield 56, 3) := by decide +kernel
theorem dX4_silence_122 : decode cX4_silence 122 = .ok (.iload_n 2, 1) := by decide +kernel
theorem dX4_silence_123 : decode cX4_silence 123 = .ok (.iaload, 1) := by decide +kernel
theorem dX4_silence_124 : decode cX4_silence 124 = .ok (.iload_n 2, 1) := by decide +kernel
theorem dX4_silence_125 : decode cX4_silence 125 = .ok (.invokevirtual 183, 3) := by decide +kernel
theorem dX4_silence_128 : decode cX4_silence 128 = .ok (.iinc 1 1, 3) := by decide +kernel
theorem dX4_silence_131 : decode cX4_silence 131 = .ok (.goto (-129), 3) := by decide +kernel
theorem dX4_silence_134 : decode cX4_silence 134 = .ok (.return_, 1) := by decide +kernel
theorem dX4_tick_0 : decode cX4_tick 0 = .ok (.aload_n 0, 1) := by decide +kernel
theorem dX4_tick_1 : decode cX4_tick 1 = .ok (.iload_n 1, 1) := by decide +kernel
theorem dX4_tick_2 : decode cX4_tick 2 = .ok (.iconst 1, 1) := by decide +kernel
theorem dX4_tick_3 : decode cX4_tick 3 = .ok (.bipush 20, 2) := by decide +kernel
theorem dX4_tick_5 : decode cX4_tick 5 = .ok (.invokestatic 102, 3) := by decide +kernel
theorem dX4_tick_8 : decode cX4_tick 8 = .ok (.iconst 1, 1) := by decide +kernel
theorem dX4_tick_9 : decode cX4_tick 9 = .ok (.iconst 1, 1) := by decide +kernel
theorem dX4_tick_10 : decode cX4_tick 10 = .ok (.invokevirtual 110, 3) := by decide +kernel
theorem dX4_tick_13 : decode cX4_tick 13 = .ok (.ifCond .ne 5, 3) := by decide +kernel
theorem dX4_tick_16 : decode cX4_tick 16 = .ok (.iconst 0, 1) := by decide +kernel
theorem dX4_tick_17 : decode cX4_tick 17 = .ok (.ireturn, 1) := by decide +kernel
theorem dX4_tick_18 : decode cX4_tick 18 = .ok (.iconst 0, 1) := by decide +kernel
theorem dX4_tick_19 : decode cX4_tick 19 = .ok (.istore_n 2, 1) := by decide +kernel
theorem dX4_tick_20 : decode cX4_tick 20 = .ok (.iload_n 2, 1) := by decide +kernel
theorem dX4_tick_21 : decode cX4_tick 21 = .ok (.iload_n 1, 1) := by decide +kernel
theorem dX4_tick_22 : decode cX4_tick 22 = .ok (.if_icmp .ge 95, 3) := by decide +kernel
theorem dX4_tick_25 : decode cX4_tick 25 = .ok (.aload_n 0, 1) := by decide +kernel
theorem dX4_tick_26 : decode cX4_tick 26 = .ok (.invokevirtual 231, 3) := by decide +kernel
theorem dX4_tick_29 : decode cX4_tick 29 = .ok (.aload_n 0, 1) := by decide +kernel
theorem dX4_tick_30 : decode cX4_tick 30 = .ok (.invokevirtual 234, 3) := by decide +kernel
theorem dX4_tick_33 : decode cX4_tick 33 = .ok (.aload_n 0, 1) := by decide +kernel
theorem dX4_tick_34 : decode cX4_tick 34 = .ok (.dup, 1) := by decide +kernel
theorem dX4_tick_35 : decode cX4_tick 35 = .ok (.getfield 121, 3) := by decide +kernel
theorem dX4_tick_38 : decode cX4_tick 38 = .ok (.iconst 1, 1) := by decide +kernel
theorem dX4_tick_39 : decode cX4_tick 39 = .ok (.iadd, 1) := by decide +kernel
theorem dX4_tick_40 : decode cX4_tick 40 = .ok (.putfield 121, 3) := by decide +kernel
theorem dX4_tick_43 : decode cX4_tick 43 = .ok (.aload_n 0, 1) := by decide +kernel
theorem dX4_tick_44 : decode cX4_tick 44 = .ok (.invokevirtual 237, 3) := by decide +kernel
theorem dX4_tick_47 : decode cX4_tick 47 = .ok (.aload_n 0, 1) := by decide +kernel
theorem dX4_tick_48 : decode cX4_tick 48 = .ok (.invokevirtual 240, 3) := by decide +kernel
theorem dX4_tick_51 : decode cX4_tick 51 = .ok (.iconst 0, 1) := by decide +kernel
theorem dX4_tick_52 : decode cX4_tick 52 = .ok (.istore_n 3, 1) := by decide +kernel
theorem dX4_tick_53 : decode cX4_tick 53 = .ok (.iload_n 3, 1) := by decide +kernel
theorem dX4_tick_54 : decode cX4_tick 54 = .ok (.aload_n 0, 1) := by decide +kernel
theorem dX4_tick_55 : decode cX4_tick 55 = .ok (.getfield 131, 3) := by decide +kernel
theorem dX4_tick_58 : decode cX4_tick 58 = .ok (.if_icmp .ge 49, 3) := by decide +kernel
theorem dX4_tick_61 : decode cX4_tick 61 = .ok (.aload_n 0, 1) := by decide +kernel
theorem dX4_tick_62 : decode cX4_tick 62 = .ok (.getfield 74, 3) := by decide +kernel
theorem dX4_tick_65 : decode cX4_tick 65 = .ok (.iload_n 3, 1) := by decide +kernel
theorem dX4_tick_66 : decode cX4_tick 66 = .ok (.aload_n 0, 1) := by decide +kernel
theorem dX4_tick_67 : decode cX4_tick 67 = .ok (.getfield 74, 3) := by decide +kernel
theorem dX4_tick_70 : decode cX4_tick 70 = .ok (.iload_n 3, 1) := by decide +kernel
theorem dX4_tick_71 : decode cX4_tick 71 = .ok (.baload, 1) := by decide +kernel
theorem dX4_tick_72 : decode cX4_tick 72 = .ok (.ifCond .eq 27, 3) := by decide +kernel
theorem dX4_tick_75 : decode cX4_tick 75 = .ok (.aload_n 0, 1) := by decide +kernel
theorem dX4_tick_76 : decode cX4_tick 76 = .ok (.getfield 121, 3) := by decide +kernel
theorem dX4_tick_79 : decode cX4_tick 79 = .ok (.aload_n 0, 1) := by decide +kernel
theorem dX4_tick_80 : decode cX4_tick 80 = .ok (.getfield 68, 3) := by decide +kernel
theorem dX4_tick_83 : decode cX4_tick 83 = .ok (.iload_n 3, 1) := by decide +kernel
theorem dX4_tick_84 : decode cX4_tick 84 = .ok (.iaload, 1) := by decide +kernel
theorem dX4_tick_85 : decode cX4_tick 85 = .ok (.isub, 1) := by decide +kernel
theorem dX4_tick_86 : decode cX4_tick 86 = .ok (.aload_n 0, 1) := by decide +kernel
theorem dX4_tick_87 : decode cX4_tick 87 = .ok (.getfield 62, 3) := by decide +kernel
theorem dX4_tick_90 : decode cX4_tick 90 = .ok (.iload_n 3, 1) := by decide +kernel
theorem dX4_tick_91 : decode cX4_tick 91 = .ok (.iaload, 1) := by decide +kernel
theorem dX4_tick_92 : decode cX4_tick 92 = .ok (.if_icmp .gt 7, 3) := by decide +kernel
theorem dX4_tick_95 : decode cX4_tick 95 = .ok (.iconst 1, 1) := by decide +kernel
theorem dX4_tick_96 : decode cX4_tick 96 = .ok (.goto 4, 3) := by decide +kernel
theorem dX4_tick_99 : decode cX4_tick 99 = .ok (.iconst 0, 1) := by decide +kernel
theorem dX4_tick_100 : decode cX4_tick 100 = .ok (.bastore, 1) := by decide +kernel
theorem dX4_tick_101 : decode cX4_tick 101 = .ok (.iinc 3 1, 3) := by decide +kernel
theorem dX4_tick_104 : decode cX4_tick 104 = .ok (.goto (-51), 3) := by decide +kernel
theorem dX4_tick_107 : decode cX4_tick 107 = .ok (.aload_n 0, 1) := by decide +kernel
theorem dX4_tick_108 : decode cX4_tick 108 = .ok (.invokevirtual 243, 3) := by decide +kernel
theorem dX4_tick_111 : decode cX4_tick 111 = .ok (.iinc 2 1, 3) := by decide +kernel
theorem dX4_tick_114 : decode cX4_tick 114 = .ok (.goto (-94), 3) := by decide +kernel
theorem dX4_tick_117 : decode cX4_tick 117 = .ok (.aload_n 0, 1) := by decide +kernel
theorem dX4_tick_118 : decode cX4_tick 118 = .ok (.getfield 121, 3) := by decide +kernel
theorem dX4_tick_121 : decode cX4_tick 121 = .ok (.ireturn, 1) := by decide +kernel
theorem dX4_told_0 : decode cX4_told 0 = .ok (.aload_n 0, 1) := by decide +kernel
theorem dX4_told_1 : decode cX4_told 1 = .ok (.iconst 0, 1) := by decide +kernel
theorem dX4_told_2 : decode cX4_told 2 = .ok (.putfield 99, 3) := by decide +kernel
theorem dX4_told_5 : decode cX4_told 5 = .ok (.iload_n 1, 1) := by decide +kernel
theorem dX4_told_6 : decode cX4_told 6 = .ok (.ireturn, 1) := by decide +kernel
theorem dX4_clock_0 : decode cX4_clock 0 = .ok (.aload_n 0, 1) := by decide +kernel
theorem dX4_clock_1 : decode cX4_clock 1 = .ok (.aload_n 0, 1) := by decide +kernel
theorem dX4_clock_2 : decode cX4_clock 2 = .ok (.getfield 121, 3) := by decide +kernel
theorem dX4_clock_5 : decode cX4_clock 5 = .ok (.invokevirtual 246, 3) := by decide +kernel
theorem dX4_clock_8 : decode cX4_clock 8 = .ok (.ireturn, 1) := by decide +kernel
theorem dX4_next_0 : decode cX4_next 0 = .ok (.aload_n 0, 1) := by decide +kernel
theorem dX4_next_1 : decode cX4_next 1 = .ok (.aload_n 0, 1) := by decide +kernel
theorem dX4_next_2 : decode cX4_next 2 = .ok (.invokevirtual 225, 3) := by decide +kernel
theorem dX4_next_5 : decode cX4_next 5 = .ok (.invokevirtual 246, 3) := by decide +kernel
theorem dX4_next_8 : decode cX4_next 8 = .ok (.ireturn, 1) := by decide +kernel
theorem dX4_said_0 : decode cX4_said 0 = .ok (.aload_n 0, 1) := by decide +kernel
theorem dX4_said_1 : decode cX4_said 1 = .ok (.aload_n 0, 1) := by decide +kernel
theorem dX4_said_2 : decode cX4_said 2 = .ok (.getfield 131, 3) := by decide +kernel
theorem dX4_said_5 : decode cX4_said 5 = .ok (.invokevirtual 246, 3) := by decide +kernel
theorem dX4_said_8 : decode cX4_said 8 = .ok (.ireturn, 1) := by decide +kernel
theorem dX4_ofTurn_0 : decode cX4_ofTurn 0 = .ok (.iload_n 2, 1) := by decide +kernel
theorem dX4_ofTurn_1 : decode cX4_ofTurn 1 = .ok (.tableswitch 103 0 7 #[47, 54, 61, 68, 75, 82, 89, 96], 47) := by decide +kernel
theorem dX4_ofTurn_48 : decode cX4_ofTurn 48 = .ok (.aload_n 0, 1) := by decide +kernel
theorem dX4_ofTurn_49 : decode cX4_ofTurn 49 = .ok (.getfield 47, 3) := by decide +kernel
theorem dX4_ofTurn_52 : decode cX4_ofTurn 52 = .ok (.iload_n 1, 1) := by decide +kernel
theorem dX4_ofTurn_53 : decode cX4_ofTurn 53 = .ok (.iaload, 1) := by decide +kernel
theorem dX4_ofTurn_54 : decode cX4_ofTurn 54 = .ok (.ireturn, 1) := by decide +kernel
theorem dX4_ofTurn_55 : decode cX4_ofTurn 55 = .ok (.aload_n 0, 1) := by decide +kernel
theorem dX4_ofTurn_56 : decode cX4_ofTurn 56 = .ok (.getfield 50, 3) := by decide +kernel
theorem dX4_ofTurn_59 : decode cX4_ofTurn 59 = .ok (.iload_n 1, 1) := by decide +kernel
theorem dX4_ofTurn_60 : decode cX4_ofTurn 60 = .ok (.iaload, 1) := by decide +kernel
theorem dX4_ofTurn_61 : decode cX4_ofTurn 61 = .ok (.ireturn, 1) := by decide +kernel
theorem dX4_ofTurn_62 : decode cX4_ofTurn 62 = .ok (.aload_n 0, 1) := by decide +kernel
theorem dX4_ofTurn_63 : decode cX4_ofTurn 63 = .ok (.getfield 53, 3) := by decide +kernel
theorem dX4_ofTurn_66 : decode cX4_ofTurn 66 = .ok (.iload_n 1, 1) := by decide +kernel
theorem dX4_ofTurn_67 : decode cX4_ofTurn 67 = .ok (.iaload, 1) := by decide +kernel
theorem dX4_ofTurn_68 : decode cX4_ofTurn 68 = .ok (.ireturn, 1) := by decide +kernel
theorem dX4_ofTurn_69 : decode cX4_ofTurn 69 = .ok (.aload_n 0, 1) := by decide +kernel
theorem dX4_ofTurn_70 : decode cX4_ofTurn 70 = .ok (.getfield 56, 3) := by decide +kernel
theorem dX4_ofTurn_73 : decode cX4_ofTurn 73 = .ok (.iload_n 1, 1) := by decide +kernel
theorem dX4_ofTurn_74 : decode cX4_ofTurn 74 = .ok (.iaload, 1) := by decide +kernel
theorem dX4_ofTurn_75 : decode cX4_ofTurn 75 = .ok (.ireturn, 1) := by decide +kernel
theorem dX4_ofTurn_76 : decode cX4_ofTurn 76 = .ok (.aload_n 0, 1) := by decide +kernel
theorem dX4_ofTurn_77 : decode cX4_ofTurn 77 = .ok (.getfield 59, 3) := by decide +kernel
theorem dX4_ofTurn_80 : decode cX4_ofTurn 80 = .ok (.iload_n 1, 1) := by decide +kernel
theorem dX4_ofTurn_81 : decode cX4_ofTurn 81 = .ok (.iaload, 1) := by decide +kernel
theorem dX4_ofTurn_82 : decode cX4_ofTurn 82 = .ok (.ireturn, 1) := by decide +kernel
theorem dX4_ofTurn_83 : decode cX4_ofTurn 83 = .ok (.aload_n 0, 1) := by decide +kernel
theorem dX4_ofTurn_84 : decode cX4_ofTurn 84 = .ok (.getfield 62, 3) := by decide +kernel
theorem dX4_ofTurn_87 : decode cX4_ofTurn 87 = .ok (.iload_n 1, 1) := by decide +kernel
theorem dX4_ofTurn_88 : decode cX4_ofTurn 88 = .ok (.iaload, 1) := by decide +kernel
theorem dX4_ofTurn_89 : decode cX4_ofTurn 89 = .ok (.ireturn, 1) := by decide +kernel
theorem dX4_ofTurn_90 : decode cX4_ofTurn 90 = .ok (.aload_n 0, 1) := by decide +kernel
theorem dX4_ofTurn_91 : decode cX4_ofTurn 91 = .ok (.getfield 65, 3) := by decide +kernel
theorem dX4_ofTurn_94 : decode cX4_ofTurn 94 = .ok (.iload_n 1, 1) := by decide +kernel
theorem dX4_ofTurn_95 : decode cX4_ofTurn 95 = .ok (.iaload, 1) := by decide +kernel
theorem dX4_ofTurn_96 : decode cX4_ofTurn 96 = .ok (.ireturn, 1) := by decide +kernel
theorem dX4_ofTurn_97 : decode cX4_ofTurn 97 = .ok (.aload_n 0, 1) := by decide +kernel
theorem dX4_ofTurn_98 : decode cX4_ofTurn 98 = .ok (.getfield 68, 3) := by decide +kernel
theorem dX4_ofTurn_101 : decode cX4_ofTurn 101 = .ok (.iload_n 1, 1) := by decide +kernel
theorem dX4_ofTurn_102 : decode cX4_ofTurn 102 = .ok (.iaload, 1) := by decide +kernel
theorem dX4_ofTurn_103 : decode cX4_ofTurn 103 = .ok (.ireturn, 1) := by decide +kernel
theorem dX4_ofTurn_104 : decode cX4_ofTurn 104 = .ok (.aload_n 0, 1) := by decide +kernel
theorem dX4_ofTurn_105 : decode cX4_ofTurn 105 = .ok (.getfield 74, 3) := by decide +kernel
theorem dX4_ofTurn_108 : decode cX4_ofTurn 108 = .ok (.iload_n 1, 1) := by decide +kernel
theorem dX4_ofTurn_109 : decode cX4_ofTurn 109 = .ok (.baload, 1) := by decide +kernel
theorem dX4_ofTurn_110 : decode cX4_ofTurn 110 = .ok (.ifCond .eq 7, 3) := by decide +kernel
theorem dX4_ofTurn_113 : decode cX4_ofTurn 113 = .ok (.iconst 1, 1) := by decide +kernel
theorem dX4_ofTurn_114 : decode cX4_ofTurn 114 = .ok (.goto 4, 3) := by decide +kernel
theorem dX4_ofTurn_117 : decode cX4_ofTurn 117 = .ok (.iconst 0, 1) := by decide +kernel
theorem dX4_ofTurn_118 : decode cX4_ofTurn 118 = .ok (.ireturn, 1) := by decide +kernel
theorem dX4_turn_0 : decode cX4_turn 0 = .ok (.aload_n 0, 1) := by decide +kernel
theorem dX4_turn_1 : decode cX4_turn 1 = .ok (.iload_n 1, 1) := by decide +kernel
theorem dX4_turn_2 : decode cX4_turn 2 = .ok (.iconst 0, 1) := by decide +kernel
theorem dX4_turn_3 : decode cX4_turn 3 = .ok (.aload_n 0, 1) := by decide +kernel
theorem dX4_turn_4 : decode cX4_turn 4 = .ok (.getfield 131, 3) := by decide +kernel
theorem dX4_turn_7 : decode cX4_turn 7 = .ok (.iconst 1, 1) := by decide +kernel
theorem dX4_turn_8 : decode cX4_turn 8 = .ok (.isub, 1) := by decide +kernel
theorem dX4_turn_9 : decode cX4_turn 9 = .ok (.invokestatic 102, 3) := by decide +kernel
theorem dX4_turn_12 : decode cX4_turn 12 = .ok (.iload_n 2, 1) := by decide +kernel
theorem dX4_turn_13 : decode cX4_turn 13 = .ok (.iconst 0, 1) := by decide +kernel
theorem dX4_turn_14 : decode cX4_turn 14 = .ok (.bipush 8, 2) := by decide +kernel
theorem dX4_turn_16 : decode cX4_turn 16 = .ok (.invokestatic 102, 3) := by decide +kernel
theorem dX4_turn_19 : decode cX4_turn 19 = .ok (.iconst 1, 1) := by decide +kernel
theorem dX4_turn_20 : decode cX4_turn 20 = .ok (.invokevirtual 110, 3) := by decide +kernel
theorem dX4_turn_23 : decode cX4_turn 23 = .ok (.ifCond .eq 12, 3) := by decide +kernel
theorem dX4_turn_26 : decode cX4_turn 26 = .ok (.aload_n 0, 1) := by decide +kernel
theorem dX4_turn_27 : decode cX4_turn 27 = .ok (.iload_n 1, 1) := by decide +kernel
theorem dX4_turn_28 : decode cX4_turn 28 = .ok (.iload_n 2, 1) := by decide +kernel
theorem dX4_turn_29 : decode cX4_turn 29 = .ok (.invokevirtual 249, 3) := by decide +kernel
theorem dX4_turn_32 : decode cX4_turn 32 = .ok (.goto 4, 3) := by decide +kernel
theorem dX4_turn_35 : decode cX4_turn 35 = .ok (.iconst 0, 1) := by decide +kernel
theorem dX4_turn_36 : decode cX4_turn 36 = .ok (.ireturn, 1) := by decide +kernel
theorem dX4_heard_0 : decode cX4_heard 0 = .ok (.aload_n 0, 1) := by decide +kernel
theorem dX4_heard_1 : decode cX4_heard 1 = .ok (.iload_n 1, 1) := by decide +kernel
theorem dX4_heard_2 : decode cX4_heard 2 = .ok (.iconst 0, 1) := by decide +kernel
theorem dX4_heard_3 : decode cX4_heard 3 = .ok (.aload_n 0, 1) := by decide +kernel
theorem dX4_heard_4 : decode cX4_heard 4 = .ok (.getfield 131, 3) := by decide +kernel
theorem dX4_heard_7 : decode cX4_heard 7 = .ok (.iconst 1, 1) := by decide +kernel
theorem dX4_heard_8 : decode cX4_heard 8 = .ok (.isub, 1) := by decide +kernel
theorem dX4_heard_9 : decode cX4_heard 9 = .ok (.invokestatic 102, 3) := by decide +kernel
theorem dX4_heard_12 : decode cX4_heard 12 = .ok (.ifCond .eq 14, 3) := by decide +kernel
theorem dX4_heard_15 : decode cX4_heard 15 = .ok (.iload_n 2, 1) := by decide +kernel
theorem dX4_heard_16 : decode cX4_heard 16 = .ok (.invokestatic 106, 3) := by decide +kernel
theorem dX4_heard_19 : decode cX4_heard 19 = .ok (.ifCond .eq 7, 3) := by decide +kernel
theorem dX4_heard_22 : decode cX4_heard 22 = .ok (.iconst 1, 1) := by decide +kernel
theorem dX4_heard_23 : decode cX4_heard 23 = .ok (.goto 4, 3) := by decide +kernel
theorem dX4_heard_26 : decode cX4_heard 26 = .ok (.iconst 0, 1) := by decide +kernel
theorem dX4_heard_27 : decode cX4_heard 27 = .ok (.iconst 1, 1) := by decide +kernel
theorem dX4_heard_28 : decode cX4_heard 28 = .ok (.iconst 1, 1) := by decide +kernel
theorem dX4_heard_29 : decode cX4_heard 29 = .ok (.invokevirtual 110, 3) := by decide +kernel
theorem dX4_heard_32 : decode cX4_heard 32 = .ok (.ifCond .eq 16, 3) := by decide +kernel
theorem dX4_heard_35 : decode cX4_heard 35 = .ok (.aload_n 0, 1) := by decide +kernel
theorem dX4_heard_36 : decode cX4_heard 36 = .ok (.getfield 77, 3) := by decide +kernel
theorem dX4_heard_39 : decode cX4_heard 39 = .ok (.iconst 4, 1) := by decide +kernel
theorem dX4_heard_40 : decode cX4_heard 40 = .ok (.iload_n 1, 1) := by decide +kernel
theorem dX4_heard_41 : decode cX4_heard 41 = .ok (.imul, 1) := by decide +kernel
theorem dX4_heard_42 : decode cX4_heard 42 = .ok (.iload_n 2, 1) := by decide +kernel
theorem dX4_heard_43 : decode cX4_heard 43 = .ok (.iadd, 1) := by decide +kernel
theorem dX4_heard_44 : decode cX4_heard 44 = .ok (.iaload, 1) := by decide +kernel
theorem dX4_heard_45 : decode cX4_heard 45 = .ok (.goto 4, 3) := by decide +kernel
theorem dX4_heard_48 : decode cX4_heard 48 = .ok (.iconst 0, 1) := by decide +kernel
theorem dX4_heard_49 : decode cX4_heard 49 = .ok (.ireturn, 1) := by decide +kernel
theorem dX4_isCell_0 : decode cX4_isCell 0 = .ok (.iload_n 1, 1) := by decide +kernel
theorem dX4_isCell_1 : decode cX4_isCell 1 = .ok (.invokestatic 106, 3) := by decide +kernel
theorem dX4_isCell_4 : decode cX4_isCell 4 = .ok (.ifCond .eq 14, 3) := by decide +kernel
theorem dX4_isCell_7 : decode cX4_isCell 7 = .ok (.iload_n 2, 1) := by decide +kernel
theorem dX4_isCell_8 : decode cX4_isCell 8 = .ok (.invokestatic 118, 3) := by decide +kernel
theorem dX4_isCell_11 : decode cX4_isCell 11 = .ok (.ifCond .eq 7, 3) := by decide +kernel
theorem dX4_isCell_14 : decode cX4_isCell 14 = .ok (.iconst 1, 1) := by decide +kernel
theorem dX4_isCell_15 : decode cX4_isCell 15 = .ok (.goto 4, 3) := by decide +kernel
theorem dX4_isCell_18 : decode cX4_isCell 18 = .ok (.iconst 0, 1) := by decide +kernel
theorem dX4_isCell_19 : decode cX4_isCell 19 = .ok (.ireturn, 1) := by decide +kernel
theorem dX4_stand_0 : decode cX4_stand 0 = .ok (.aload_n 0, 1) := by decide +kernel
theorem dX4_stand_1 : decode cX4_stand 1 = .ok (.aload_n 0, 1) := by decide +kernel
theorem dX4_stand_2 : decode cX4_stand 2 = .ok (.iload_n 1, 1) := by decide +kernel
theorem dX4_stand_3 : decode cX4_stand 3 = .ok (.iload_n 2, 1) := by decide +kernel
theorem dX4_stand_4 : decode cX4_stand 4 = .ok (.invokevirtual 253, 3) := by decide +kernel
theorem dX4_stand_7 : decode cX4_stand 7 = .ok (.iconst 1, 1) := by decide +kernel
theorem dX4_stand_8 : decode cX4_stand 8 = .ok (.iconst 1, 1) := by decide +kernel
theorem dX4_stand_9 : decode cX4_stand 9 = .ok (.invokevirtual 110, 3) := by decide +kernel
theorem dX4_stand_12 : decode cX4_stand 12 = .ok (.ifCond .eq 17, 3) := by decide +kernel
theorem dX4_stand_15 : decode cX4_stand 15 = .ok (.aload_n 0, 1) := by decide +kernel
theorem dX4_stand_16 : decode cX4_stand 16 = .ok (.getfield 29, 3) := by decide +kernel
theorem dX4_stand_19 : decode cX4_stand 19 = .ok (.bipush 10, 2) := by decide +kernel
theorem dX4_stand_21 : decode cX4_stand 21 = .ok (.iload_n 1, 1) := by decide +kernel
theorem dX4_stand_22 : decode cX4_stand 22 = .ok (.imul, 1) := by decide +kernel
theorem dX4_stand_23 : decode cX4_stand 23 = .ok (.iload_n 2, 1) := by decide +kernel
theorem dX4_stand_24 : decode cX4_stand 24 = .ok (.iadd, 1) := by decide +kernel
theorem dX4_stand_25 : decode cX4_stand 25 = .ok (.iaload, 1) := by decide +kernel
theorem dX4_stand_26 : decode cX4_stand 26 = .ok (.goto 4, 3) := by decide +kernel
theorem dX4_stand_29 : decode cX4_stand 29 = .ok (.iconst 0, 1) := by decide +kernel
theorem dX4_stand_30 : decode cX4_stand 30 = .ok (.ireturn, 1) := by decide +kernel
theorem dX4_standBy_0 : decode cX4_standBy 0 = .ok (.aload_n 0, 1) := by decide +kernel
theorem dX4_standBy_1 : decode cX4_standBy 1 = .ok (.aload_n 0, 1) := by decide +kernel
theorem dX4_standBy_2 : decode cX4_standBy 2 = .ok (.iload_n 1, 1) := by decide +kernel
theorem dX4_standBy_3 : decode cX4_standBy 3 = .ok (.iload_n 2, 1) := by decide +kernel
theorem dX4_standBy_4 : decode cX4_standBy 4 = .ok (.invokevirtual 253, 3) := by decide +kernel
theorem dX4_standBy_7 : decode cX4_standBy 7 = .ok (.iconst 1, 1) := by decide +kernel
theorem dX4_standBy_8 : decode cX4_standBy 8 = .ok (.iconst 1, 1) := by decide +kernel
theorem dX4_standBy_9 : decode cX4_standBy 9 = .ok (.invokevirtual 110, 3) := by decide +kernel
theorem dX4_standBy_12 : decode cX4_standBy 12 = .ok (.ifCond .eq 17, 3) := by decide +kernel
theorem dX4_standBy_15 : decode cX4_standBy 15 = .ok (.aload_n 0, 1) := by decide +kernel
theorem dX4_standBy_16 : decode cX4_standBy 16 = .ok (.getfield 32, 3) := by decide +kernel
theorem dX4_standBy_19 : decode cX4_standBy 19 = .ok (.bipush 10, 2) := by decide +kernel
theorem dX4_standBy_21 : decode cX4_standBy 21 = .ok (.iload_n 1, 1) := by decide +kernel
theorem dX4_standBy_22 : decode cX4_standBy 22 = .ok (.imul, 1) := by decide +kernel
theorem dX4_standBy_23 : decode cX4_standBy 23 = .ok (.iload_n 2, 1) := by decide +kernel
theorem dX4_standBy_24 : decode cX4_standBy 24 = .ok (.iadd, 1) := by decide +kernel
theorem dX4_standBy_25 : decode cX4_standBy 25 = .ok (.iaload, 1) := by decide +kernel
theorem dX4_standBy_26 : decode cX4_standBy 26 = .ok (.goto 4, 3) := by decide +kernel
theorem dX4_standBy_29 : decode cX4_standBy 29 = .ok (.iconst 0, 1) := by decide +kernel
theorem dX4_standBy_30 : decode cX4_standBy 30 = .ok (.ireturn, 1) := by decide +kernel
theorem dX4_standAnew_0 : decode cX4_standAnew 0 = .ok (.aload_n 0, 1) := by decide +kernel
theorem dX4_standAnew_1 : decode cX4_standAnew 1 = .ok (.iload_n 1, 1) := by decide +kernel
theorem dX4_standAnew_2 : decode cX4_standAnew 2 = .ok (.iload_n 2, 1) := by decide +kernel
theorem dX4_standAnew_3 : decode cX4_standAnew 3 = .ok (.invokevirtual 256, 3) := by decide +kernel
theorem dX4_standAnew_6 : decode cX4_standAnew 6 = .ok (.ireturn, 1) := by decide +kernel
theorem dX4_hint_0 : decode cX4_hint 0 = .ok (.aload_n 0, 1) := by decide +kernel
theorem dX4_hint_1 : decode cX4_hint 1 = .ok (.aload_n 0, 1) := by decide +kernel
theorem dX4_hint_2 : decode cX4_hint 2 = .ok (.iload_n 1, 1) := by decide +kernel
theorem dX4_hint_3 : decode cX4_hint 3 = .ok (.iload_n 2, 1) := by decide +kernel
theorem dX4_hint_4 : decode cX4_hint 4 = .ok (.invokevirtual 253, 3) := by decide +kernel
theorem dX4_hint_7 : decode cX4_hint 7 = .ok (.iconst 1, 1) := by decide +kernel
theorem dX4_hint_8 : decode cX4_hint 8 = .ok (.iconst 1, 1) := by decide +kernel
theorem dX4_hint_9 : decode cX4_hint 9 = .ok (.invokevirtual 110, 3) := by decide +kernel
theorem dX4_hint_12 : decode cX4_hint 12 = .ok (.ifCond .eq 17, 3) := by decide +kernel
theorem dX4_hint_15 : decode cX4_hint 15 = .ok (.aload_n 0, 1) := by decide +kernel
theorem dX4_hint_16 : decode cX4_hint 16 = .ok (.getfield 35, 3) := by decide +kernel
theorem dX4_hint_19 : decode cX4_hint 19 = .ok (.bipush 10, 2) := by decide +kernel
theorem dX4_hint_21 : decode cX4_hint 21 = .ok (.iload_n 1, 1) := by decide +kernel
theorem dX4_hint_22 : decode cX4_hint 22 = .ok (.imul, 1) := by decide +kernel
theorem dX4_hint_23 : decode cX4_hint 23 = .ok (.iload_n 2, 1) := by decide +kernel
theorem dX4_hint_24 : decode cX4_hint 24 = .ok (.iadd, 1) := by decide +kernel
theorem dX4_hint_25 : decode cX4_hint 25 = .ok (.iaload, 1) := by decide +kernel
theorem dX4_hint_26 : decode cX4_hint 26 = .ok (.goto 4, 3) := by decide +kernel
theorem dX4_hint_29 : decode cX4_hint 29 = .ok (.iconst 0, 1) := by decide +kernel
theorem dX4_hint_30 : decode cX4_hint 30 = .ok (.ireturn, 1) := by decide +kernel
theorem dX4_isSupported_0 : decode cX4_isSupported 0 = .ok (.aload_n 0, 1) := by decide +kernel
theorem dX4_isSupported_1 : decode cX4_isSupported 1 = .ok (.aload_n 0, 1) := by decide +kernel
theorem dX4_isSupported_2 : decode cX4_isSupported 2 = .ok (.iload_n 1, 1) := by decide +kernel
theorem dX4_isSupported_3 : decode cX4_isSupported 3 = .ok (.iload_n 2, 1) := by decide +kernel
theorem dX4_isSupported_4 : decode cX4_isSupported 4 = .ok (.invokevirtual 253, 3) := by decide +kernel
theorem dX4_isSupported_7 : decode cX4_isSupported 7 = .ok (.iconst 1, 1) := by decide +kernel
theorem dX4_isSupported_8 : decode cX4_isSupported 8 = .ok (.iconst 1, 1) := by decide +kernel
theorem dX4_isSupported_9 : decode cX4_isSupported 9 = .ok (.invokevirtual 110, 3) := by decide +kernel
theorem dX4_isSupported_12 : decode cX4_isSupported 12 = .ok (.ifCond .ne 5, 3) := by decide +kernel
theorem dX4_isSupported_15 : decode cX4_isSupported 15 = .ok (.iconst 0, 1) := by decide +kernel
theorem dX4_isSupported_16 : decode cX4_isSupported 16 = .ok (.ireturn, 1) := by decide +kernel
theorem dX4_isSupported_17 : decode cX4_isSupported 17 = .ok (.bipush 10, 2) := by decide +kernel
theorem dX4_isSupported_19 : decode cX4_isSupported 19 = .ok (.iload_n 1, 1) := by decide +kernel
theorem dX4_isSupported_20 : decode cX4_isSupported 20 = .ok (.imul, 1) := by decide +kernel
theorem dX4_isSupported_21 : decode cX4_isSupported 21 = .ok (.iload_n 2, 1) := by decide +kernel
theorem dX4_isSupported_22 : decode cX4_isSupported 22 = .ok (.iadd, 1) := by decide +kernel
theorem dX4_isSupported_23 : decode cX4_isSupported 23 = .ok (.istore_n 3, 1) := by decide +kernel
theorem dX4_isSupported_24 : decode cX4_isSupported 24 = .ok (.iconst 0, 1) := by decide +kernel
theorem dX4_isSupported_25 : decode cX4_isSupported 25 = .ok (.istore 4, 2) := by decide +kernel
theorem dX4_isSupported_27 : decode cX4_isSupported 27 = .ok (.iconst 0, 1) := by decide +kernel
theorem dX4_isSupported_28 : decode cX4_isSupported 28 = .ok (.istore 5, 2) := by decide +kernel
theorem dX4_isSupported_30 : decode cX4_isSupported 30 = .ok (.iload 5, 2) := by decide +kernel
theorem dX4_isSupported_32 : decode cX4_isSupported 32 = .ok (.bipush 10, 2) := by decide +kernel
theorem dX4_isSupported_34 : decode cX4_isSupported 34 = .ok (.if_icmp .ge 52, 3) := by decide +kernel
theorem dX4_isSupported_37 : decode cX4_isSupported 37 = .ok (.iload 4, 2) := by decide +kernel
theorem dX4_isSupported_39 : decode cX4_isSupported 39 = .ok (.ifCond .ne 34, 3) := by decide +kernel
theorem dX4_isSupported_42 : decode cX4_isSupported 42 = .ok (.aload_n 0, 1) := by decide +kernel
theorem dX4_isSupported_43 : decode cX4_isSupported 43 = .ok (.getfield 92, 3) := by decide +kernel
theorem dX4_isSupported_46 : decode cX4_isSupported 46 = .ok (.bipush 10, 2) := by decide +kernel
theorem dX4_isSupported_48 : decode cX4_isSupported 48 = .ok (.iload_n 3, 1) := by decide +kernel
theorem dX4_isSupported_49 : decode cX4_isSupported 49 = .ok (.imul, 1) := by decide +kernel
theorem dX4_isSupported_50 : decode cX4_isSupported 50 = .ok (.iload 5, 2) := by decide +kernel
theorem dX4_isSupported_52 : decode cX4_isSupported 52 = .ok (.iadd, 1) := by decide +kernel
theorem dX4_isSupported_53 : decode cX4_isSupported 53 = .ok (.baload, 1) := by decide +kernel
theorem dX4_isSupported_54 : decode cX4_isSupported 54 = .ok (.ifCond .eq 23, 3) := by decide +kernel
theorem dX4_isSupported_57 : decode cX4_isSupported 57 = .ok (.aload_n 0, 1) := by decide +kernel
theorem dX4_isSupported_58 : decode cX4_isSupported 58 = .ok (.getfield 29, 3) := by decide +kernel
theorem dX4_isSupported_61 : decode cX4_isSupported 61 = .ok (.bipush 10, 2) := by decide +kernel
theorem dX4_isSupported_63 : decode cX4_isSupported 63 = .ok (.iload_n 1, 1) := by decide +kernel
theorem dX4_isSupported_64 : decode cX4_isSupported 64 = .ok (.imul, 1) := by decide +kernel
theorem dX4_isSupported_65 : decode cX4_isSupported 65 = .ok (.iload 5, 2) := by decide +kernel
theorem dX4_isSupported_67 : decode cX4_isSupported 67 = .ok (.iadd, 1) := by decide +kernel
theorem dX4_isSupported_68 : decode cX4_isSupported 68 = .ok (.iaload, 1) := by decide +kernel
theorem dX4_isSupported_69 : decode cX4_isSupported 69 = .ok (.iconst 1, 1) := by decide +kernel
theorem dX4_isSupported_70 : decode cX4_isSupported 70 = .ok (.if_icmp .ne 7, 3) := by decide +kernel
theorem dX4_isSupported_73 : decode cX4_isSupported 73 = .ok (.iconst 1, 1) := by decide +kernel
theorem dX4_isSupported_74 : decode cX4_isSupported 74 = .ok (.goto 4, 3) := by decide +kernel
theorem dX4_isSupported_77 : decode cX4_isSupported 77 = .ok (.iconst 0, 1) := by decide +kernel
theorem dX4_isSupported_78 : decode cX4_isSupported 78 = .ok (.istore 4, 2) := by decide +kernel
theorem dX4_isSupported_80 : decode cX4_isSupported 80 = .ok (.iinc 5 1, 3) := by decide +kernel
theorem dX4_isSupported_83 : decode cX4_isSupported 83 = .ok (.goto (-53), 3) := by decide +kernel
theorem dX4_isSupported_86 : decode cX4_isSupported 86 = .ok (.iload 4, 2) := by decide +kernel
theorem dX4_isSupported_88 : decode cX4_isSupported 88 = .ok (.ifCond .eq 16, 3) := by decide +kernel
theorem dX4_isSupported_91 : decode cX4_isSupported 91 = .ok (.aload_n 0, 1) := by decide +kernel
theorem dX4_isSupported_92 : decode cX4_isSupported 92 = .ok (.getfield 29, 3) := by decide +kernel
theorem dX4_isSupported_95 : decode cX4_isSupported 95 = .ok (.iload_n 3, 1) := by decide +kernel
theorem dX4_isSupported_96 : decode cX4_isSupported 96 = .ok (.iaload, 1) := by decide +kernel
theorem dX4_isSupported_97 : decode cX4_isSupported 97 = .ok (.ifCond .eq 7, 3) := by decide +kernel
theorem dX4_isSupported_100 : decode cX4_isSupported 100 = .ok (.iconst 1, 1) := by decide +kernel
theorem dX4_isSupported_101 : decode cX4_isSupported 101 = .ok (.goto 4, 3) := by decide +kernel
theorem dX4_isSupported_104 : decode cX4_isSupported 104 = .ok (.iconst 0, 1) := by decide +kernel
theorem dX4_isSupported_105 : decode cX4_isSupported 105 = .ok (.ireturn, 1) := by decide +kernel
theorem dX4_lies_0 : decode cX4_lies 0 = .ok (.aload_n 0, 1) := by decide +kernel
theorem dX4_lies_1 : decode cX4_lies 1 = .ok (.iload_n 1, 1) := by decide +kernel
theorem dX4_lies_2 : decode cX4_lies 2 = .ok (.invokestatic 106, 3) := by decide +kernel
theorem dX4_lies_5 : decode cX4_lies 5 = .ok (.iconst 1, 1) := by decide +kernel
theorem dX4_lies_6 : decode cX4_lies 6 = .ok (.iconst 1, 1) := by decide +kernel
theorem dX4_lies_7 : decode cX4_lies 7 = .ok (.invokevirtual 110, 3) := by decide +kernel
theorem dX4_lies_10 : decode cX4_lies 10 = .ok (.ifCond .eq 12, 3) := by decide +kernel
theorem dX4_lies_13 : decode cX4_lies 13 = .ok (.aload_n 0, 1) := by decide +kernel
theorem dX4_lies_14 : decode cX4_lies 14 = .ok (.getfield 41, 3) := by decide +kernel
theorem dX4_lies_17 : decode cX4_lies 17 = .ok (.iload_n 1, 1) := by decide +kernel
theorem dX4_lies_18 : decode cX4_lies 18 = .ok (.iaload, 1) := by decide +kernel
theorem dX4_lies_19 : decode cX4_lies 19 = .ok (.goto 4, 3) := by decide +kernel
theorem dX4_lies_22 : decode cX4_lies 22 = .ok (.iconst 0, 1) := by decide +kernel
theorem dX4_lies_23 : decode cX4_lies 23 = .ok (.ireturn, 1) := by decide +kernel
theorem dX4_isGround_0 : decode cX4_isGround 0 = .ok (.iload_n 1, 1) := by decide +kernel
theorem dX4_isGround_1 : decode cX4_isGround 1 = .ok (.iload 4, 2) := by decide +kernel
theorem dX4_isGround_3 : decode cX4_isGround 3 = .ok (.invokestatic 114, 3) := by decide +kernel
theorem dX4_isGround_6 : decode cX4_isGround 6 = .ok (.ifCond .eq 23, 3) := by decide +kernel
theorem dX4_isGround_9 : decode cX4_isGround 9 = .ok (.aload_n 0, 1) := by decide +kernel
theorem dX4_isGround_10 : decode cX4_isGround 10 = .ok (.getfield 29, 3) := by decide +kernel
theorem dX4_isGround_13 : decode cX4_isGround 13 = .ok (.bipush 10, 2) := by decide +kernel
theorem dX4_isGround_15 : decode cX4_isGround 15 = .ok (.iload 4, 2) := by decide +kernel
theorem dX4_isGround_17 : decode cX4_isGround 17 = .ok (.imul, 1) := by decide +kernel
theorem dX4_isGround_18 : decode cX4_isGround 18 = .ok (.iload_n 2, 1) := by decide +kernel
theorem dX4_isGround_19 : decode cX4_isGround 19 = .ok (.iadd, 1) := by decide +kernel
theorem dX4_isGround_20 : decode cX4_isGround 20 = .ok (.iaload, 1) := by decide +kernel
theorem dX4_isGround_21 : decode cX4_isGround 21 = .ok (.iload_n 3, 1) := by decide +kernel
theorem dX4_isGround_22 : decode cX4_isGround 22 = .ok (.if_icmp .ne 7, 3) := by decide +kernel
theorem dX4_isGround_25 : decode cX4_isGround 25 = .ok (.iconst 1, 1) := by decide +kernel
theorem dX4_isGround_26 : decode cX4_isGround 26 = .ok (.goto 4, 3) := by decide +kernel
theorem dX4_isGround_29 : decode cX4_isGround 29 = .ok (.iconst 0, 1) := by decide +kernel
theorem dX4_isGround_30 : decode cX4_isGround 30 = .ok (.istore 5, 2) := by decide +kernel
theorem dX4_isGround_32 : decode cX4_isGround 32 = .ok (.iconst 0, 1) := by decide +kernel
theorem dX4_isGround_33 : decode cX4_isGround 33 = .ok (.istore 6, 2) := by decide +kernel
theorem dX4_isGround_35 : decode cX4_isGround 35 = .ok (.iload 6, 2) := by decide +kernel
theorem dX4_isGround_37 : decode cX4_isGround 37 = .ok (.iconst 4, 1) := by decide +kernel
theorem dX4_isGround_38 : decode cX4_isGround 38 = .ok (.if_icmp .ge 85, 3) := by decide +kernel
theorem dX4_isGround_41 : decode cX4_isGround 41 = .ok (.iload 5, 2) := by decide +kernel
theorem dX4_isGround_43 : decode cX4_isGround 43 = .ok (.ifCond .eq 80, 3) := by decide +kernel
theorem dX4_isGround_46 : decode cX4_isGround 46 = .ok (.aload_n 0, 1) := by decide +kernel
theorem dX4_isGround_47 : decode cX4_isGround 47 = .ok (.getfield 29, 3) := by decide +kernel
theorem dX4_isGround_50 : decode cX4_isGround 50 = .ok (.bipush 10, 2) := by decide +kernel
theorem dX4_isGround_52 : decode cX4_isGround 52 = .ok (.iload 6, 2) := by decide +kernel
theorem dX4_isGround_54 : decode cX4_isGround 54 = .ok (.imul, 1) := by decide +kernel
theorem dX4_isGround_55 : decode cX4_isGround 55 = .ok (.iload_n 2, 1) := by decide +kernel
theorem dX4_isGround_56 : decode cX4_isGround 56 = .ok (.iadd, 1) := by decide +kernel
theorem dX4_isGround_57 : decode cX4_isGround 57 = .ok (.iaload, 1) := by decide +kernel
theorem dX4_isGround_58 : decode cX4_isGround 58 = .ok (.istore 7, 2) := by decide +kernel
theorem dX4_isGround_60 : decode cX4_isGround 60 = .ok (.iload_n 1, 1) := by decide +kernel
theorem dX4_isGround_61 : decode cX4_isGround 61 = .ok (.iload 6, 2) := by decide +kernel
theorem dX4_isGround_63 : decode cX4_isGround 63 = .ok (.invokestatic 114, 3) := by decide +kernel
theorem dX4_isGround_66 : decode cX4_isGround 66 = .ok (.ifCond .eq 44, 3) := by decide +kernel
theorem dX4_isGround_69 : decode cX4_isGround 69 = .ok (.iload 7, 2) := by decide +kernel
theorem dX4_isGround_71 : decode cX4_isGround 71 = .ok (.iload_n 3, 1) := by decide +kernel
theorem dX4_isGround_72 : decode cX4_isGround 72 = .ok (.if_icmp .eq 38, 3) := by decide +kernel
theorem dX4_isGround_75 : decode cX4_isGround 75 = .ok (.iload 7, 2) := by decide +kernel
theorem dX4_isGround_77 : decode cX4_isGround 77 = .ok (.iload_n 3, 1) := by decide +kernel
theorem dX4_isGround_78 : decode cX4_isGround 78 = .ok (.invokestatic 187, 3) := by decide +kernel
theorem dX4_isGround_81 : decode cX4_isGround 81 = .ok (.if_icmp .eq 33, 3) := by decide +kernel
theorem dX4_isGround_84 : decode cX4_isGround 84 = .ok (.aload_n 0, 1) := by decide +kernel
theorem dX4_isGround_85 : decode cX4_isGround 85 = .ok (.getfield 77, 3) := by decide +kernel
theorem dX4_isGround_88 : decode cX4_isGround 88 = .ok (.iconst 4, 1) := by decide +kernel
theorem dX4_isGround_89 : decode cX4_isGround 89 = .ok (.aload_n 0, 1) := by decide +kernel
theorem dX4_isGround_90 : decode cX4_isGround 90 = .ok (.getfield 32, 3) := by decide +kernel
theorem dX4_isGround_93 : decode cX4_isGround 93 = .ok (.bipush 10, 2) := by decide +kernel
theorem dX4_isGround_95 : decode cX4_isGround 95 = .ok (.iload 4, 2) := by decide +kernel
theorem dX4_isGround_97 : decode cX4_isGround 97 = .ok (.imul, 1) := by decide +kernel
theorem dX4_isGround_98 : decode cX4_isGround 98 = .ok (.iload_n 2, 1) := by decide +kernel
theorem dX4_isGround_99 : decode cX4_isGround 99 = .ok (.iadd, 1) := by decide +kernel
theorem dX4_isGround_100 : decode cX4_isGround 100 = .ok (.iaload, 1) := by decide +kernel
theorem dX4_isGround_101 : decode cX4_isGround 101 = .ok (.imul, 1) := by decide +kernel
theorem dX4_isGround_102 : decode cX4_isGround 102 = .ok (.iload 6, 2) := by decide +kernel
theorem dX4_isGround_104 : decode cX4_isGround 104 = .ok (.iadd, 1) := by decide +kernel
theorem dX4_isGround_105 : decode cX4_isGround 105 = .ok (.iaload, 1) := by decide +kernel
theorem dX4_isGround_106 : decode cX4_isGround 106 = .ok (.iconst 4, 1) := by decide +kernel
theorem dX4_isGround_107 : decode cX4_isGround 107 = .ok (.if_icmp .ne 7, 3) := by decide +kernel
theorem dX4_isGround_110 : decode cX4_isGround 110 = .ok (.iconst 1, 1) := by decide +kernel
theorem dX4_isGround_111 : decode cX4_isGround 111 = .ok (.goto 4, 3) := by decide +kernel
theorem dX4_isGround_114 : decode cX4_isGround 114 = .ok (.iconst 0, 1) := by decide +kernel
theorem dX4_isGround_115 : decode cX4_isGround 115 = .ok (.istore 5, 2) := by decide +kernel
theorem dX4_isGround_117 : decode cX4_isGround 117 = .ok (.iinc 6 1, 3) := by decide +kernel
theorem dX4_isGround_120 : decode cX4_isGround 120 = .ok (.goto (-85), 3) := by decide +kernel
theorem dX4_isGround_123 : decode cX4_isGround 123 = .ok (.iload 5, 2) := by decide +kernel
theorem dX4_isGround_125 : decode cX4_isGround 125 = .ok (.ireturn, 1) := by decide +kernel
theorem dX4_ground_0 : decode cX4_ground 0 = .ok (.aload_n 0, 1) := by decide +kernel
theorem dX4_ground_1 : decode cX4_ground 1 = .ok (.iload_n 2, 1) := by decide +kernel
theorem dX4_ground_2 : decode cX4_ground 2 = .ok (.invokestatic 118, 3) := by decide +kernel
theorem dX4_ground_5 : decode cX4_ground 5 = .ok (.iload_n 1, 1) := by decide +kernel
theorem dX4_ground_6 : decode cX4_ground 6 = .ok (.iconst 1, 1) := by decide +kernel
theorem dX4_ground_7 : decode cX4_ground 7 = .ok (.bipush 15, 2) := by decide +kernel
theorem dX4_ground_9 : decode cX4_ground 9 = .ok (.invokestatic 102, 3) := by decide +kernel
theorem dX4_ground_12 : decode cX4_ground 12 = .ok (.iconst 1, 1) := by decide +kernel
theorem dX4_ground_13 : decode cX4_ground 13 = .ok (.invokevirtual 110, 3) := by decide +kernel
theorem dX4_ground_16 : decode cX4_ground 16 = .ok (.ifCond .ne 5, 3) := by decide +kernel
theorem dX4_ground_19 : decode cX4_ground 19 = .ok (.iconst 0, 1) := by decide +kernel
theorem dX4_ground_20 : decode cX4_ground 20 = .ok (.ireturn, 1) := by decide +kernel
theorem dX4_ground_21 : decode cX4_ground 21 = .ok (.iconst 0, 1) := by decide +kernel
theorem dX4_ground_22 : decode cX4_ground 22 = .ok (.istore_n 3, 1) := by decide +kernel
theorem dX4_ground_23 : decode cX4_ground 23 = .ok (.iconst 0, 1) := by decide +kernel
theorem dX4_ground_24 : decode cX4_ground 24 = .ok (.istore 4, 2) := by decide +kernel
theorem dX4_ground_26 : decode cX4_ground 26 = .ok (.iload 4, 2) := by decide +kernel
theorem dX4_ground_28 : decode cX4_ground 28 = .ok (.bipush 8, 2) := by decide +kernel
theorem dX4_ground_30 : decode cX4_ground 30 = .ok (.if_icmp .ge 44, 3) := by decide +kernel
theorem dX4_ground_33 : decode cX4_ground 33 = .ok (.iload 4, 2) := by decide +kernel
theorem dX4_ground_35 : decode cX4_ground 35 = .ok (.iconst 4, 1) := by decide +kernel
theorem dX4_ground_36 : decode cX4_ground 36 = .ok (.if_icmp .ge 7, 3) := by decide +kernel
theorem dX4_ground_39 : decode cX4_ground 39 = .ok (.iconst 2, 1) := by decide +kernel
theorem dX4_ground_40 : decode cX4_ground 40 = .ok (.goto 4, 3) := by decide +kernel
theorem dX4_ground_43 : decode cX4_ground 43 = .ok (.iconst 1, 1) := by decide +kernel
theorem dX4_ground_44 : decode cX4_ground 44 = .ok (.istore 5, 2) := by decide +kernel
theorem dX4_ground_46 : decode cX4_ground 46 = .ok (.aload_n 0, 1) := by decide +kernel
theorem dX4_ground_47 : decode cX4_ground 47 = .ok (.iload_n 1, 1) := by decide +kernel
theorem dX4_ground_48 : decode cX4_ground 48 = .ok (.iload_n 2, 1) := by decide +kernel
theorem dX4_ground_49 : decode cX4_ground 49 = .ok (.iload 5, 2) := by decide +kernel
theorem dX4_ground_51 : decode cX4_ground 51 = .ok (.iload 4, 2) := by decide +kernel
theorem dX4_ground_53 : decode cX4_ground 53 = .ok (.iconst 4, 1) := by decide +kernel
theorem dX4_ground_54 : decode cX4_ground 54 = .ok (.irem, 1) := by decide +kernel
theorem dX4_ground_55 : decode cX4_ground 55 = .ok (.invokevirtual 259, 3) := by decide +kernel
theorem dX4_ground_58 : decode cX4_ground 58 = .ok (.ifCond .eq 8, 3) := by decide +kernel
theorem dX4_ground_61 : decode cX4_ground 61 = .ok (.iload 5, 2) := by decide +kernel
theorem dX4_ground_63 : decode cX4_ground 63 = .ok (.goto 4, 3) := by decide +kernel
theorem dX4_ground_66 : decode cX4_ground 66 = .ok (.iload_n 3, 1) := by decide +kernel
theorem dX4_ground_67 : decode cX4_ground 67 = .ok (.istore_n 3, 1) := by decide +kernel
theorem dX4_ground_68 : decode cX4_ground 68 = .ok (.iinc 4 1, 3) := by decide +kernel
theorem dX4_ground_71 : decode cX4_ground 71 = .ok (.goto (-45), 3) := by decide +kernel
theorem dX4_ground_74 : decode cX4_ground 74 = .ok (.iload_n 3, 1) := by decide +kernel
theorem dX4_ground_75 : decode cX4_ground 75 = .ok (.ireturn, 1) := by decide +kernel
theorem dX4_questions_0 : decode cX4_questions 0 = .ok (.aload_n 0, 1) := by decide +kernel
theorem dX4_questions_1 : decode cX4_questions 1 = .ok (.aload_n 0, 1) := by decide +kernel
theorem dX4_questions_2 : decode cX4_questions 2 = .ok (.getfield 141, 3) := by decide +kernel
theorem dX4_questions_5 : decode cX4_questions 5 = .ok (.invokevirtual 246, 3) := by decide +kernel
theorem dX4_questions_8 : decode cX4_questions 8 = .ok (.ireturn, 1) := by decide +kernel
theorem dX4_question_0 : decode cX4_question 0 = .ok (.aload_n 0, 1) := by decide +kernel
theorem dX4_question_1 : decode cX4_question 1 = .ok (.iload_n 1, 1) := by decide +kernel
theorem dX4_question_2 : decode cX4_question 2 = .ok (.iconst 0, 1) := by decide +kernel
theorem dX4_question_3 : decode cX4_question 3 = .ok (.aload_n 0, 1) := by decide +kernel
theorem dX4_question_4 : decode cX4_question 4 = .ok (.getfield 141, 3) := by decide +kernel
theorem dX4_question_7 : decode cX4_question 7 = .ok (.iconst 1, 1) := by decide +kernel
theorem dX4_question_8 : decode cX4_question 8 = .ok (.isub, 1) := by decide +kernel
theorem dX4_question_9 : decode cX4_question 9 = .ok (.invokestatic 102, 3) := by decide +kernel
theorem dX4_question_12 : decode cX4_question 12 = .ok (.iload_n 2, 1) := by decide +kernel
theorem dX4_question_13 : decode cX4_question 13 = .ok (.iconst 0, 1) := by decide +kernel
theorem dX4_question_14 : decode cX4_question 14 = .ok (.iconst 3, 1) := by decide +kernel
theorem dX4_question_15 : decode cX4_question 15 = .ok (.invokestatic 102, 3) := by decide +kernel
theorem dX4_question_18 : decode cX4_question 18 = .ok (.iconst 1, 1) := by decide +kernel
theorem dX4_question_19 : decode cX4_question 19 = .ok (.invokevirtual 110, 3) := by decide +kernel
theorem dX4_question_22 : decode cX4_question 22 = .ok (.ifCond .ne 5, 3) := by decide +kernel
theorem dX4_question_25 : decode cX4_question 25 = .ok (.iconst 0, 1) := by decide +kernel
theorem dX4_question_26 : decode cX4_question 26 = .ok (.ireturn, 1) := by decide +kernel
theorem dX4_question_27 : decode cX4_question 27 = .ok (.aload_n 0, 1) := by decide +kernel
theorem dX4_question_28 : decode cX4_question 28 = .ok (.getfield 86, 3) := by decide +kernel
theorem dX4_question_31 : decode cX4_question 31 = .ok (.aload_n 0, 1) := by decide +kernel
theorem dX4_question_32 : decode cX4_question 32 = .ok (.getfield 141, 3) := by decide +kernel
theorem dX4_question_35 : decode cX4_question 35 = .ok (.iconst 1, 1) := by decide +kernel
theorem dX4_question_36 : decode cX4_question 36 = .ok (.isub, 1) := by decide +kernel
theorem dX4_question_37 : decode cX4_question 37 = .ok (.iload_n 1, 1) := by decide +kernel
theorem dX4_question_38 : decode cX4_question 38 = .ok (.isub, 1) := by decide +kernel
theorem dX4_question_39 : decode cX4_question 39 = .ok (.iaload, 1) := by decide +kernel
theorem dX4_question_40 : decode cX4_question 40 = .ok (.istore_n 3, 1) := by decide +kernel
theorem dX4_question_41 : decode cX4_question 41 = .ok (.iload_n 2, 1) := by decide +kernel
theorem dX4_question_42 : decode cX4_question 42 = .ok (.ifCond .ne 12, 3) := by decide +kernel
theorem dX4_question_45 : decode cX4_question 45 = .ok (.aload_n 0, 1) := by decide +kernel
theorem dX4_question_46 : decode cX4_question 46 = .ok (.getfield 47, 3) := by decide +kernel
theorem dX4_question_49 : decode cX4_question 49 = .ok (.iload_n 3, 1) := by decide +kernel
theorem dX4_question_50 : decode cX4_question 50 = .ok (.iaload, 1) := by decide +kernel
theorem dX4_question_51 : decode cX4_question 51 = .ok (.goto 35, 3) := by decide +kernel
theorem dX4_question_54 : decode cX4_question 54 = .ok (.iload_n 2, 1) := by decide +kernel
theorem dX4_question_55 : decode cX4_question 55 = .ok (.iconst 1, 1) := by decide +kernel
theorem dX4_question_56 : decode cX4_question 56 = .ok (.if_icmp .ne 15, 3) := by decide +kernel
theorem dX4_question_59 : decode cX4_question 59 = .ok (.aload_n 0, 1) := by decide +kernel
theorem dX4_question_60 : decode cX4_question 60 = .ok (.getfield 59, 3) := by decide +kernel
theorem dX4_question_63 : decode cX4_question 63 = .ok (.iload_n 3, 1) := by decide +kernel
theorem dX4_question_64 : decode cX4_question 64 = .ok (.iaload, 1) := by decide +kernel
theorem dX4_question_65 : decode cX4_question 65 = .ok (.invokestatic 137, 3) := by decide +kernel
theorem dX4_question_68 : decode cX4_question 68 = .ok (.goto 18, 3) := by decide +kernel
theorem dX4_question_71 : decode cX4_question 71 = .ok (.iload_n 2, 1) := by decide +kernel
theorem dX4_question_72 : decode cX4_question 72 = .ok (.iconst 2, 1) := by decide +kernel
theorem dX4_question_73 : decode cX4_question 73 = .ok (.if_icmp .ne 12, 3) := by decide +kernel
theorem dX4_question_76 : decode cX4_question 76 = .ok (.aload_n 0, 1) := by decide +kernel
theorem dX4_question_77 : decode cX4_question 77 = .ok (.getfield 53, 3) := by decide +kernel
theorem dX4_question_80 : decode cX4_question 80 = .ok (.iload_n 3, 1) := by decide +kernel
theorem dX4_question_81 : decode cX4_question 81 = .ok (.iaload, 1) := by decide +kernel
theorem dX4_question_82 : decode cX4_question 82 = .ok (.goto 4, 3) := by decide +kernel
theorem dX4_question_85 : decode cX4_question 85 = .ok (.iload_n 3, 1) := by decide +kernel
theorem dX4_question_86 : decode cX4_question 86 = .ok (.ireturn, 1) := by decide +kernel
theorem dX4_quarrels_0 : decode cX4_quarrels 0 = .ok (.aload_n 0, 1) := by decide +kernel
theorem dX4_quarrels_1 : decode cX4_quarrels 1 = .ok (.iconst 0, 1) := by decide +kernel
theorem dX4_quarrels_2 : decode cX4_quarrels 2 = .ok (.putfield 99, 3) := by decide +kernel
theorem dX4_quarrels_5 : decode cX4_quarrels 5 = .ok (.iconst 0, 1) := by decide +kernel
theorem dX4_quarrels_6 : decode cX4_quarrels 6 = .ok (.istore_n 1, 1) := by decide +kernel
theorem dX4_quarrels_7 : decode cX4_quarrels 7 = .ok (.iconst 0, 1) := by decide +kernel
theorem dX4_quarrels_8 : decode cX4_quarrels 8 = .ok (.istore_n 2, 1) := by decide +kernel
theorem dX4_quarrels_9 : decode cX4_quarrels 9 = .ok (.iload_n 2, 1) := by decide +kernel
theorem dX4_quarrels_10 : decode cX4_quarrels 10 = .ok (.sipush 160, 3) := by decide +kernel
theorem dX4_quarrels_13 : decode cX4_quarrels 13 = .ok (.if_icmp .ge 26, 3) := by decide +kernel
theorem dX4_quarrels_16 : decode cX4_quarrels 16 = .ok (.iload_n 1, 1) := by decide +kernel
theorem dX4_quarrels_17 : decode cX4_quarrels 17 = .ok (.aload_n 0, 1) := by decide +kernel
theorem dX4_quarrels_18 : decode cX4_quarrels 18 = .ok (.getfield 89, 3) := by decide +kernel
theorem dX4_quarrels_21 : decode cX4_quarrels 21 = .ok (.iload_n 2, 1) := by decide +kernel
theorem dX4_quarrels_22 : decode cX4_quarrels 22 = .ok (.baload, 1) := by decide +kernel
theorem dX4_quarrels_23 : decode cX4_quarrels 23 = .ok (.ifCond .eq 7, 3) := by decide +kernel
theorem dX4_quarrels_26 : decode cX4_quarrels 26 = .ok (.iconst 1, 1) := by decide +kernel
theorem dX4_quarrels_27 : decode cX4_quarrels 27 = .ok (.goto 4, 3) := by decide +kernel
theorem dX4_quarrels_30 : decode cX4_quarrels 30 = .ok (.iconst 0, 1) := by decide +kernel
theorem dX4_quarrels_31 : decode cX4_quarrels 31 = .ok (.iadd, 1) := by decide +kernel
theorem dX4_quarrels_32 : decode cX4_quarrels 32 = .ok (.istore_n 1, 1) := by decide +kernel
theorem dX4_quarrels_33 : decode cX4_quarrels 33 = .ok (.iinc 2 1, 3) := by decide +kernel
theorem dX4_quarrels_36 : decode cX4_quarrels 36 = .ok (.goto (-27), 3) := by decide +kernel
theorem dX4_quarrels_39 : decode cX4_quarrels 39 = .ok (.iload_n 1, 1) := by decide +kernel
theorem dX4_quarrels_40 : decode cX4_quarrels 40 = .ok (.ireturn, 1) := by decide +kernel
theorem dX4_owner_0 : decode cX4_owner 0 = .ok (.aload_n 0, 1) := by decide +kernel
theorem dX4_owner_1 : decode cX4_owner 1 = .ok (.iload_n 1, 1) := by decide +kernel
theorem dX4_owner_2 : decode cX4_owner 2 = .ok (.iconst 0, 1) := by decide +kernel
theorem dX4_owner_3 : decode cX4_owner 3 = .ok (.bipush 7, 2) := by decide +kernel
theorem dX4_owner_5 : decode cX4_owner 5 = .ok (.invokestatic 102, 3) := by decide +kernel
theorem dX4_owner_8 : decode cX4_owner 8 = .ok (.iconst 1, 1) := by decide +kernel
theorem dX4_owner_9 : decode cX4_owner 9 = .ok (.iconst 1, 1) := by decide +kernel
theorem dX4_owner_10 : decode cX4_owner 10 = .ok (.invokevirtual 110, 3) := by decide +kernel
theorem dX4_owner_13 : decode cX4_owner 13 = .ok (.ifCond .eq 12, 3) := by decide +kernel
theorem dX4_owner_16 : decode cX4_owner 16 = .ok (.aload_n 0, 1) := by decide +kernel
theorem dX4_owner_17 : decode cX4_owner 17 = .ok (.getfield 44, 3) := by decide +kernel
theorem dX4_owner_20 : decode cX4_owner 20 = .ok (.iload_n 1, 1) := by decide +kernel
theorem dX4_owner_21 : decode cX4_owner 21 = .ok (.iaload, 1) := by decide +kernel
theorem dX4_owner_22 : decode cX4_owner 22 = .ok (.goto 4, 3) := by decide +kernel
theorem dX4_owner_25 : decode cX4_owner 25 = .ok (.iconst 0, 1) := by decide +kernel
theorem dX4_owner_26 : decode cX4_owner 26 = .ok (.ireturn, 1) := by decide +kernel
theorem dX4_deals_0 : decode cX4_deals 0 = .ok (.aload_n 0, 1) := by decide +kernel
theorem dX4_deals_1 : decode cX4_deals 1 = .ok (.aload_n 0, 1) := by decide +kernel
theorem dX4_deals_2 : decode cX4_deals 2 = .ok (.getfield 219, 3) := by decide +kernel
theorem dX4_deals_5 : decode cX4_deals 5 = .ok (.invokevirtual 246, 3) := by decide +kernel
theorem dX4_deals_8 : decode cX4_deals 8 = .ok (.ireturn, 1) := by decide +kernel
theorem dX4_minutes_0 : decode cX4_minutes 0 = .ok (.aload_n 0, 1) := by decide +kernel
theorem dX4_minutes_1 : decode cX4_minutes 1 = .ok (.iconst 0, 1) := by decide +kernel
theorem dX4_minutes_2 : decode cX4_minutes 2 = .ok (.putfield 99, 3) := by decide +kernel
theorem dX4_minutes_5 : decode cX4_minutes 5 = .ok (.bipush 7, 2) := by decide +kernel
theorem dX4_minutes_7 : decode cX4_minutes 7 = .ok (.istore_n 1, 1) := by decide +kernel
theorem dX4_minutes_8 : decode cX4_minutes 8 = .ok (.iconst 0, 1) := by decide +kernel
theorem dX4_minutes_9 : decode cX4_minutes 9 = .ok (.istore_n 2, 1) := by decide +kernel
theorem dX4_minutes_10 : decode cX4_minutes 10 = .ok (.iload_n 2, 1) := by decide +kernel
theorem dX4_minutes_11 : decode cX4_minutes 11 = .ok (.aload_n 0, 1) := by decide +kernel
theorem dX4_minutes_12 : decode cX4_minutes 12 = .ok (.getfield 131, 3) := by decide +kernel
theorem dX4_minutes_15 : decode cX4_minutes 15 = .ok (.if_icmp .ge 81, 3) := by decide +kernel
theorem dX4_minutes_18 : decode cX4_minutes 18 = .ok (.bipush 31, 2) := by decide +kernel
theorem dX4_minutes_20 : decode cX4_minutes 20 = .ok (.iload_n 1, 1) := by decide +kernel
theorem dX4_minutes_21 : decode cX4_minutes 21 = .ok (.imul, 1) := by decide +kernel
theorem dX4_minutes_22 : decode cX4_minutes 22 = .ok (.aload_n 0, 1) := by decide +kernel
theorem dX4_minutes_23 : decode cX4_minutes 23 = .ok (.getfield 47, 3) := by decide +kernel
theorem dX4_minutes_26 : decode cX4_minutes 26 = .ok (.iload_n 2, 1) := by decide +kernel
theorem dX4_minutes_27 : decode cX4_minutes 27 = .ok (.iaload, 1) := by decide +kernel
theorem dX4_minutes_28 : decode cX4_minutes 28 = .ok (.iadd, 1) := by decide +kernel
theorem dX4_minutes_29 : decode cX4_minutes 29 = .ok (.istore_n 1, 1) := by decide +kernel
theorem dX4_minutes_30 : decode cX4_minutes 30 = .ok (.bipush 31, 2) := by decide +kernel
theorem dX4_minutes_32 : decode cX4_minutes 32 = .ok (.iload_n 1, 1) := by decide +kernel
theorem dX4_minutes_33 : decode cX4_minutes 33 = .ok (.imul, 1) := by decide +kernel
theorem dX4_minutes_34 : decode cX4_minutes 34 = .ok (.aload_n 0, 1) := by decide +kernel
theorem dX4_minutes_35 : decode cX4_minutes 35 = .ok (.getfield 50, 3) := by decide +kernel
theorem dX4_minutes_38 : decode cX4_minutes 38 = .ok (.iload_n 2, 1) := by decide +kernel
theorem dX4_minutes_39 : decode cX4_minutes 39 = .ok (.iaload, 1) := by decide +kernel
theorem dX4_minutes_40 : decode cX4_minutes 40 = .ok (.iadd, 1) := by decide +kernel
theorem dX4_minutes_41 : decode cX4_minutes 41 = .ok (.istore_n 1, 1) := by decide +kernel
theorem dX4_minutes_42 : decode cX4_minutes 42 = .ok (.bipush 31, 2) := by decide +kernel
theorem dX4_minutes_44 : decode cX4_minutes 44 = .ok (.iload_n 1, 1) := by decide +kernel
theorem dX4_minutes_45 : decode cX4_minutes 45 = .ok (.imul, 1) := by decide +kernel
theorem dX4_minutes_46 : decode cX4_minutes 46 = .ok (.aload_n 0, 1) := by decide +kernel
theorem dX4_minutes_47 : decode cX4_minutes 47 = .ok (.getfield 53, 3) := by decide +kernel
theorem dX4_minutes_50 : decode cX4_minutes 50 = .ok (.iload_n 2, 1) := by decide +kernel
theorem dX4_minutes_51 : decode cX4_minutes 51 = .ok (.iaload, 1) := by decide +kernel
theorem dX4_minutes_52 : decode cX4_minutes 52 = .ok (.iadd, 1) := by decide +kernel
theorem dX4_minutes_53 : decode cX4_minutes 53 = .ok (.istore_n 1, 1) := by decide +kernel
theorem dX4_minutes_54 : decode cX4_minutes 54 = .ok (.bipush 31, 2) := by decide +kernel
theorem dX4_minutes_56 : decode cX4_minutes 56 = .ok (.iload_n 1, 1) := by decide +kernel
theorem dX4_minutes_57 : decode cX4_minutes 57 = .ok (.imul, 1) := by decide +kernel
theorem dX4_minutes_58 : decode cX4_minutes 58 = .ok (.aload_n 0, 1) := by decide +kernel
theorem dX4_minutes_59 : decode cX4_minutes 59 = .ok (.getfield 56, 3) := by decide +kernel
theorem dX4_minutes_62 : decode cX4_minutes 62 = .ok (.iload_n 2, 1) := by decide +kernel
theorem dX4_minutes_63 : decode cX4_minutes 63 = .ok (.iaload, 1) := by decide +kernel
theorem dX4_minutes_64 : decode cX4_minutes 64 = .ok (.iadd, 1) := by decide +kernel
theorem dX4_minutes_65 : decode cX4_minutes 65 = .ok (.istore_n 1, 1) := by decide +kernel
theorem dX4_minutes_66 : decode cX4_minutes 66 = .ok (.bipush 31, 2) := by decide +kernel
theorem dX4_minutes_68 : decode cX4_minutes 68 = .ok (.iload_n 1, 1) := by decide +kernel
theorem dX4_minutes_69 : decode cX4_minutes 69 = .ok (.imul, 1) := by decide +kernel
theorem dX4_minutes_70 : decode cX4_minutes 70 = .ok (.aload_n 0, 1) := by decide +kernel
theorem dX4_minutes_71 : decode cX4_minutes 71 = .ok (.getfield 59, 3) := by decide +kernel
theorem dX4_minutes_74 : decode cX4_minutes 74 = .ok (.iload_n 2, 1) := by decide +kernel
theorem dX4_minutes_75 : decode cX4_minutes 75 = .ok (.iaload, 1) := by decide +kernel
theorem dX4_minutes_76 : decode cX4_minutes 76 = .ok (.iadd, 1) := by decide +kernel
theorem dX4_minutes_77 : decode cX4_minutes 77 = .ok (.istore_n 1, 1) := by decide +kernel
theorem dX4_minutes_78 : decode cX4_minutes 78 = .ok (.bipush 31, 2) := by decide +kernel
theorem dX4_minutes_80 : decode cX4_minutes 80 = .ok (.iload_n 1, 1) := by decide +kernel
theorem dX4_minutes_81 : decode cX4_minutes 81 = .ok (.imul, 1) := by decide +kernel
theorem dX4_minutes_82 : decode cX4_minutes 82 = .ok (.aload_n 0, 1) := by decide +kernel
theorem dX4_minutes_83 : decode cX4_minutes 83 = .ok (.getfield 65, 3) := by decide +kernel
theorem dX4_minutes_86 : decode cX4_minutes 86 = .ok (.iload_n 2, 1) := by decide +kernel
theorem dX4_minutes_87 : decode cX4_minutes 87 = .ok (.iaload, 1) := by decide +kernel
theorem dX4_minutes_88 : decode cX4_minutes 88 = .ok (.iadd, 1) := by decide +kernel
theorem dX4_minutes_89 : decode cX4_minutes 89 = .ok (.istore_n 1, 1) := by decide +kernel
theorem dX4_minutes_90 : decode cX4_minutes 90 = .ok (.iinc 2 1, 3) := by decide +kernel
theorem dX4_minutes_93 : decode cX4_minutes 93 = .ok (.goto (-83), 3) := by decide +kernel
theorem dX4_minutes_96 : decode cX4_minutes 96 = .ok (.iload_n 1, 1) := by decide +kernel
theorem dX4_minutes_97 : decode cX4_minutes 97 = .ok (.ireturn, 1) := by decide +kernel
theorem dJ6_bitCount_0f7a4_0 : decode cJ6_bitCount_0f7a4 0 = .ok (.iload_n 0, 1) := by decide +kernel
theorem dJ6_bitCount_0f7a4_1 : decode cJ6_bitCount_0f7a4 1 = .ok (.iload_n 0, 1) := by decide +kernel
theorem dJ6_bitCount_0f7a4_2 : decode cJ6_bitCount_0f7a4 2 = .ok (.iconst 1, 1) := by decide +kernel
theorem dJ6_bitCount_0f7a4_3 : decode cJ6_bitCount_0f7a4 3 = .ok (.iushr, 1) := by decide +kernel
theorem dJ6_bitCount_0f7a4_4 : decode cJ6_bitCount_0f7a4 4 = .ok (.ldc_w 265, 3) := by decide +kernel
theorem dJ6_bitCount_0f7a4_7 : decode cJ6_bitCount_0f7a4 7 = .ok (.iand, 1) := by decide +kernel
theorem dJ6_bitCount_0f7a4_8 : decode cJ6_bitCount_0f7a4 8 = .ok (.isub, 1) := by decide +kernel
theorem dJ6_bitCount_0f7a4_9 : decode cJ6_bitCount_0f7a4 9 = .ok (.istore_n 0, 1) := by decide +kernel
theorem dJ6_bitCount_0f7a4_10 : decode cJ6_bitCount_0f7a4 10 = .ok (.iload_n 0, 1) := by decide +kernel
theorem dJ6_bitCount_0f7a4_11 : decode cJ6_bitCount_0f7a4 11 = .ok (.ldc_w 266, 3) := by decide +kernel
theorem dJ6_bitCount_0f7a4_14 : decode cJ6_bitCount_0f7a4 14 = .ok (.iand, 1) := by decide +kernel
theorem dJ6_bitCount_0f7a4_15 : decode cJ6_bitCount_0f7a4 15 = .ok (.iload_n 0, 1) := by decide +kernel
theorem dJ6_bitCount_0f7a4_16 : decode cJ6_bitCount_0f7a4 16 = .ok (.iconst 2, 1) := by decide +kernel
theorem dJ6_bitCount_0f7a4_17 : decode cJ6_bitCount_0f7a4 17 = .ok (.iushr, 1) := by decide +kernel
theorem dJ6_bitCount_0f7a4_18 : decode cJ6_bitCount_0f7a4 18 = .ok (.ldc_w 266, 3) := by decide +kernel
theorem dJ6_bitCount_0f7a4_21 : decode cJ6_bitCount_0f7a4 21 = .ok (.iand, 1) := by decide +kernel
theorem dJ6_bitCount_0f7a4_22 : decode cJ6_bitCount_0f7a4 22 = .ok (.iadd, 1) := by decide +kernel
theorem dJ6_bitCount_0f7a4_23 : decode cJ6_bitCount_0f7a4 23 = .ok (.istore_n 0, 1) := by decide +kernel
theorem dJ6_bitCount_0f7a4_24 : decode cJ6_bitCount_0f7a4 24 = .ok (.iload_n 0, 1) := by decide +kernel
theorem dJ6_bitCount_0f7a4_25 : decode cJ6_bitCount_0f7a4 25 = .ok (.iload_n 0, 1) := by decide +kernel
theorem dJ6_bitCount_0f7a4_26 : decode cJ6_bitCount_0f7a4 26 = .ok (.iconst 4, 1) := by decide +kernel
theorem dJ6_bitCount_0f7a4_27 : decode cJ6_bitCount_0f7a4 27 = .ok (.iushr, 1) := by decide +kernel
theorem dJ6_bitCount_0f7a4_28 : decode cJ6_bitCount_0f7a4 28 = .ok (.iadd, 1) := by decide +kernel
theorem dJ6_bitCount_0f7a4_29 : decode cJ6_bitCount_0f7a4 29 = .ok (.ldc_w 267, 3) := by decide +kernel
theorem dJ6_bitCount_0f7a4_32 : decode cJ6_bitCount_0f7a4 32 = .ok (.iand, 1) := by decide +kernel
theorem dJ6_bitCount_0f7a4_33 : decode cJ6_bitCount_0f7a4 33 = .ok (.istore_n 0, 1) := by decide +kernel
theorem dJ6_bitCount_0f7a4_34 : decode cJ6_bitCount_0f7a4 34 = .ok (.iload_n 0, 1) := by decide +kernel
theorem dJ6_bitCount_0f7a4_35 : decode cJ6_bitCount_0f7a4 35 = .ok (.iload_n 0, 1) := by decide +kernel
theorem dJ6_bitCount_0f7a4_36 : decode cJ6_bitCount_0f7a4 36 = .ok (.bipush 8, 2) := by decide +kernel
theorem dJ6_bitCount_0f7a4_38 : decode cJ6_bitCount_0f7a4 38 = .ok (.iushr, 1) := by decide +kernel
theorem dJ6_bitCount_0f7a4_39 : decode cJ6_bitCount_0f7a4 39 = .ok (.iadd, 1) := by decide +kernel
theorem dJ6_bitCount_0f7a4_40 : decode cJ6_bitCount_0f7a4 40 = .ok (.istore_n 0, 1) := by decide +kernel
theorem dJ6_bitCount_0f7a4_41 : decode cJ6_bitCount_0f7a4 41 = .ok (.iload_n 0, 1) := by decide +kernel
theorem dJ6_bitCount_0f7a4_42 : decode cJ6_bitCount_0f7a4 42 = .ok (.iload_n 0, 1) := by decide +kernel
theorem dJ6_bitCount_0f7a4_43 : decode cJ6_bitCount_0f7a4 43 = .ok (.bipush 16, 2) := by decide +kernel
theorem dJ6_bitCount_0f7a4_45 : decode cJ6_bitCount_0f7a4 45 = .ok (.iushr, 1) := by decide +kernel
theorem dJ6_bitCount_0f7a4_46 : decode cJ6_bitCount_0f7a4 46 = .ok (.iadd, 1) := by decide +kernel
theorem dJ6_bitCount_0f7a4_47 : decode cJ6_bitCount_0f7a4 47 = .ok (.istore_n 0, 1) := by decide +kernel
theorem dJ6_bitCount_0f7a4_48 : decode cJ6_bitCount_0f7a4 48 = .ok (.iload_n 0, 1) := by decide +kernel
theorem dJ6_bitCount_0f7a4_49 : decode cJ6_bitCount_0f7a4 49 = .ok (.bipush 63, 2) := by decide +kernel
theorem dJ6_bitCount_0f7a4_51 : decode cJ6_bitCount_0f7a4 51 = .ok (.iand, 1) := by decide +kernel
theorem dJ6_bitCount_0f7a4_52 : decode cJ6_bitCount_0f7a4 52 = .ok (.ireturn, 1) := by decide +kernel
theorem dJ9_max_7cf53_0 : decode cJ9_max_7cf53 0 = .ok (.iload_n 0, 1) := by decide +kernel
theorem dJ9_max_7cf53_1 : decode cJ9_max_7cf53 1 = .ok (.iload_n 1, 1) := by decide +kernel
theorem dJ9_max_7cf53_2 : decode cJ9_max_7cf53 2 = .ok (.if_icmp .lt 7, 3) := by decide +kernel
theorem dJ9_max_7cf53_5 : decode cJ9_max_7cf53 5 = .ok (.iload_n 0, 1) := by decide +kernel
theorem dJ9_max_7cf53_6 : decode cJ9_max_7cf53 6 = .ok (.goto 4, 3) := by decide +kernel
theorem dJ9_max_7cf53_9 : decode cJ9_max_7cf53 9 = .ok (.iload_n 1, 1) := by decide +kernel
theorem dJ9_max_7cf53_10 : decode cJ9_max_7cf53 10 = .ok (.ireturn, 1) := by decide +kernel
theorem dJ9_min_7cf53_0 : decode cJ9_min_7cf53 0 = .ok (.iload_n 0, 1) := by decide +kernel
theorem dJ9_min_7cf53_1 : decode cJ9_min_7cf53 1 = .ok (.iload_n 1, 1) := by decide +kernel
theorem dJ9_min_7cf53_2 : decode cJ9_min_7cf53 2 = .ok (.if_icmp .gt 7, 3) := by decide +kernel
theorem dJ9_min_7cf53_5 : decode cJ9_min_7cf53 5 = .ok (.iload_n 0, 1) := by decide +kernel
theorem dJ9_min_7cf53_6 : decode cJ9_min_7cf53 6 = .ok (.goto 4, 3) := by decide +kernel
theorem dJ9_min_7cf53_9 : decode cJ9_min_7cf53 9 = .ok (.iload_n 1, 1) := by decide +kernel
theorem dJ9_min_7cf53_10 : decode cJ9_min_7cf53 10 = .ok (.ireturn, 1) := by decide +kernel
theorem dJxa1e45_init_da8c8_0 : decode cJxa1e45_init_da8c8 0 = .ok (.aload_n 0, 1) := by decide +kernel
theorem dJxa1e45_init_da8c8_1 : decode cJxa1e45_init_da8c8 1 = .ok (.invokespecial 1, 3) := by decide +kernel
theorem dJxa1e45_init_da8c8_4 : decode cJxa1e45_init_da8c8 4 = .ok (.return_, 1) := by decide +kernel
theorem dJxc12de_init_da8c8_0 : decode cJxc12de_init_da8c8 0 = .ok (.aload_n 0, 1) := by decide +kernel
theorem dJxc12de_init_da8c8_1 : decode cJxc12de_init_da8c8 1 = .ok (.invokespecial 1, 3) := by decide +kernel
theorem dJxc12de_init_da8c8_4 : decode cJxc12de_init_da8c8 4 = .ok (.aload_n 0, 1) := by decide +kernel
theorem dJxc12de_init_da8c8_5 : decode cJxc12de_init_da8c8 5 = .ok (.iconst 0, 1) := by decide +kernel
theorem dJxc12de_init_da8c8_6 : decode cJxc12de_init_da8c8 6 = .ok (.putfield 7, 3) := by decide +kernel
theorem dJxc12de_init_da8c8_9 : decode cJxc12de_init_da8c8 9 = .ok (.return_, 1) := by decide +kernel
theorem dJx4a65c_init_da8c8_0 : decode cJx4a65c_init_da8c8 0 = .ok (.aload_n 0, 1) := by decide +kernel
theorem dJx4a65c_init_da8c8_1 : decode cJx4a65c_init_da8c8 1 = .ok (.invokespecial 1, 3) := by decide +kernel
theorem dJx4a65c_init_da8c8_4 : decode cJx4a65c_init_da8c8 4 = .ok (.aload_n 0, 1) := by decide +kernel
theorem dJx4a65c_init_da8c8_5 : decode cJx4a65c_init_da8c8 5 = .ok (.getstatic 39, 3) := by decide +kernel
theorem dJx4a65c_init_da8c8_8 : decode cJx4a65c_init_da8c8 8 = .ok (.putfield 9, 3) := by decide +kernel
theorem dJx4a65c_init_da8c8_11 : decode cJx4a65c_init_da8c8 11 = .ok (.return_, 1) := by decide +kernel
theorem dJx4a65c_grow_92f84_0 : decode cJx4a65c_grow_92f84 0 = .ok (.aload_n 0, 1) := by decide +kernel
theorem dJx4a65c_grow_92f84_1 : decode cJx4a65c_grow_92f84 1 = .ok (.getfield 9, 3) := by decide +kernel
theorem dJx4a65c_grow_92f84_4 : decode cJx4a65c_grow_92f84 4 = .ok (.arraylength, 1) := by decide +kernel
theorem dJx4a65c_grow_92f84_5 : decode cJx4a65c_grow_92f84 5 = .ok (.istore_n 2, 1) := by decide +kernel
theorem dJx4a65c_grow_92f84_6 : decode cJx4a65c_grow_92f84 6 = .ok (.iload_n 2, 1) := by decide +kernel
theorem dJx4a65c_grow_92f84_7 : decode cJx4a65c_grow_92f84 7 = .ok (.ifCond .gt 13, 3) := by decide +kernel
theorem dJx4a65c_grow_92f84_10 : decode cJx4a65c_grow_92f84 10 = .ok (.aload_n 0, 1) := by decide +kernel
theorem dJx4a65c_grow_92f84_11 : decode cJx4a65c_grow_92f84 11 = .ok (.getfield 9, 3) := by decide +kernel
theorem dJx4a65c_grow_92f84_14 : decode cJx4a65c_grow_92f84 14 = .ok (.getstatic 39, 3) := by decide +kernel
theorem dJx4a65c_grow_92f84_17 : decode cJx4a65c_grow_92f84 17 = .ok (.if_acmp .eq 28, 3) := by decide +kernel
theorem dJx4a65c_grow_92f84_20 : decode cJx4a65c_grow_92f84 20 = .ok (.iload_n 2, 1) := by decide +kernel
theorem dJx4a65c_grow_92f84_21 : decode cJx4a65c_grow_92f84 21 = .ok (.iload_n 1, 1) := by decide +kernel
theorem dJx4a65c_grow_92f84_22 : decode cJx4a65c_grow_92f84 22 = .ok (.iload_n 2, 1) := by decide +kernel
theorem dJx4a65c_grow_92f84_23 : decode cJx4a65c_grow_92f84 23 = .ok (.isub, 1) := by decide +kernel
theorem dJx4a65c_grow_92f84_24 : decode cJx4a65c_grow_92f84 24 = .ok (.iload_n 2, 1) := by decide +kernel
theorem dJx4a65c_grow_92f84_25 : decode cJx4a65c_grow_92f84 25 = .ok (.iconst 1, 1) := by decide +kernel
theorem dJx4a65c_grow_92f84_26 : decode cJx4a65c_grow_92f84 26 = .ok (.ishr, 1) := by decide +kernel
theorem dJx4a65c_grow_92f84_27 : decode cJx4a65c_grow_92f84 27 = .ok (.invokestatic 73, 3) := by decide +kernel
theorem dJx4a65c_grow_92f84_30 : decode cJx4a65c_grow_92f84 30 = .ok (.istore_n 3, 1) := by decide +kernel
theorem dJx4a65c_grow_92f84_31 : decode cJx4a65c_grow_92f84 31 = .ok (.aload_n 0, 1) := by decide +kernel
theorem dJx4a65c_grow_92f84_32 : decode cJx4a65c_grow_92f84 32 = .ok (.aload_n 0, 1) := by decide +kernel
theorem dJx4a65c_grow_92f84_33 : decode cJx4a65c_grow_92f84 33 = .ok (.getfield 9, 3) := by decide +kernel
theorem dJx4a65c_grow_92f84_36 : decode cJx4a65c_grow_92f84 36 = .ok (.iload_n 3, 1) := by decide +kernel
theorem dJx4a65c_grow_92f84_37 : decode cJx4a65c_grow_92f84 37 = .ok (.invokestatic 66, 3) := by decide +kernel
theorem dJx4a65c_grow_92f84_40 : decode cJx4a65c_grow_92f84 40 = .ok (.dup_x1, 1) := by decide +kernel
theorem dJx4a65c_grow_92f84_41 : decode cJx4a65c_grow_92f84 41 = .ok (.putfield 9, 3) := by decide +kernel
theorem dJx4a65c_grow_92f84_44 : decode cJx4a65c_grow_92f84 44 = .ok (.areturn, 1) := by decide +kernel
theorem dJx4a65c_grow_92f84_45 : decode cJx4a65c_grow_92f84 45 = .ok (.aload_n 0, 1) := by decide +kernel
theorem dJx4a65c_grow_92f84_46 : decode cJx4a65c_grow_92f84 46 = .ok (.bipush 10, 2) := by decide +kernel
theorem dJx4a65c_grow_92f84_48 : decode cJx4a65c_grow_92f84 48 = .ok (.iload_n 1, 1) := by decide +kernel
theorem dJx4a65c_grow_92f84_49 : decode cJx4a65c_grow_92f84 49 = .ok (.invokestatic 79, 3) := by decide +kernel
theorem dJx4a65c_grow_92f84_52 : decode cJx4a65c_grow_92f84 52 = .ok (.anewarray 7, 3) := by decide +kernel
theorem dJx4a65c_grow_92f84_55 : decode cJx4a65c_grow_92f84 55 = .ok (.dup_x1, 1) := by decide +kernel
theorem dJx4a65c_grow_92f84_56 : decode cJx4a65c_grow_92f84 56 = .ok (.putfield 9, 3) := by decide +kernel
theorem dJx4a65c_grow_92f84_59 : decode cJx4a65c_grow_92f84 59 = .ok (.areturn, 1) := by decide +kernel
theorem dJx4a65c_grow_d5877_0 : decode cJx4a65c_grow_d5877 0 = .ok (.aload_n 0, 1) := by decide +kernel
theorem dJx4a65c_grow_d5877_1 : decode cJx4a65c_grow_d5877 1 = .ok (.aload_n 0, 1) := by decide +kernel
theorem dJx4a65c_grow_d5877_2 : decode cJx4a65c_grow_d5877 2 = .ok (.getfield 48, 3) := by decide +kernel
theorem dJx4a65c_grow_d5877_5 : decode cJx4a65c_grow_d5877 5 = .ok (.iconst 1, 1) := by decide +kernel
theorem dJx4a65c_grow_d5877_6 : decode cJx4a65c_grow_d5877 6 = .ok (.iadd, 1) := by decide +kernel
theorem dJx4a65c_grow_d5877_7 : decode cJx4a65c_grow_d5877 7 = .ok (.invokevirtual 69, 3) := by decide +kernel
theorem dJx4a65c_grow_d5877_10 : decode cJx4a65c_grow_d5877 10 = .ok (.areturn, 1) := by decide +kernel
theorem dJx4a65c_size_8abf5_0 : decode cJx4a65c_size_8abf5 0 = .ok (.aload_n 0, 1) := by decide +kernel
theorem dJx4a65c_size_8abf5_1 : decode cJx4a65c_size_8abf5 1 = .ok (.getfield 48, 3) := by decide +kernel
theorem dJx4a65c_size_8abf5_4 : decode cJx4a65c_size_8abf5 4 = .ok (.ireturn, 1) := by decide +kernel
theorem dJx4a65c_isEmpty_aae02_0 : decode cJx4a65c_isEmpty_aae02 0 = .ok (.aload_n 0, 1) := by decide +kernel
theorem dJx4a65c_isEmpty_aae02_1 : decode cJx4a65c_isEmpty_aae02 1 = .ok (.getfield 48, 3) := by decide +kernel
theorem dJx4a65c_isEmpty_aae02_4 : decode cJx4a65c_isEmpty_aae02 4 = .ok (.ifCond .ne 7, 3) := by decide +kernel
theorem dJx4a65c_isEmpty_aae02_7 : decode cJx4a65c_isEmpty_aae02 7 = .ok (.iconst 1, 1) := by decide +kernel
theorem dJx4a65c_isEmpty_aae02_8 : decode cJx4a65c_isEmpty_aae02 8 = .ok (.goto 4, 3) := by decide +kernel
theorem dJx4a65c_isEmpty_aae02_11 : decode cJx4a65c_isEmpty_aae02 11 = .ok (.iconst 0, 1) := by decide +kernel
theorem dJx4a65c_isEmpty_aae02_12 : decode cJx4a65c_isEmpty_aae02 12 = .ok (.ireturn, 1) := by decide +kernel
theorem dJx4a65c_elementData_915e3_0 : decode cJx4a65c_elementData_915e3 0 = .ok (.aload_n 0, 1) := by decide +kernel
theorem dJx4a65c_elementData_915e3_1 : decode cJx4a65c_elementData_915e3 1 = .ok (.getfield 9, 3) := by decide +kernel
theorem dJx4a65c_elementData_915e3_4 : decode cJx4a65c_elementData_915e3 4 = .ok (.iload_n 1, 1) := by decide +kernel
theorem dJx4a65c_elementData_915e3_5 : decode cJx4a65c_elementData_915e3 5 = .ok (.aaload, 1) := by decide +kernel
theorem dJx4a65c_elementData_915e3_6 : decode cJx4a65c_elementData_915e3 6 = .ok (.areturn, 1) := by decide +kernel
theorem dJx4a65c_get_915e3_0 : decode cJx4a65c_get_915e3 0 = .ok (.iload_n 1, 1) := by decide +kernel
theorem dJx4a65c_get_915e3_1 : decode cJx4a65c_get_915e3 1 = .ok (.aload_n 0, 1) := by decide +kernel
theorem dJx4a65c_get_915e3_2 : decode cJx4a65c_get_915e3 2 = .ok (.getfield 48, 3) := by decide +kernel
theorem dJx4a65c_get_915e3_5 : decode cJx4a65c_get_915e3 5 = .ok (.invokestatic 118, 3) := by decide +kernel
theorem dJx4a65c_get_915e3_8 : decode cJx4a65c_get_915e3 8 = .ok (.pop, 1) := by decide +kernel
theorem dJx4a65c_get_915e3_9 : decode cJx4a65c_get_915e3 9 = .ok (.aload_n 0, 1) := by decide +kernel
theorem dJx4a65c_get_915e3_10 : decode cJx4a65c_get_915e3 10 = .ok (.iload_n 1, 1) := by decide +kernel
theorem dJx4a65c_get_915e3_11 : decode cJx4a65c_get_915e3 11 = .ok (.invokevirtual 123, 3) := by decide +kernel
theorem dJx4a65c_get_915e3_14 : decode cJx4a65c_get_915e3 14 = .ok (.areturn, 1) := by decide +kernel
theorem dJx4a65c_add_72be8_0 : decode cJx4a65c_add_72be8 0 = .ok (.iload_n 3, 1) := by decide +kernel
theorem dJx4a65c_add_72be8_1 : decode cJx4a65c_add_72be8 1 = .ok (.aload_n 2, 1) := by decide +kernel
theorem dJx4a65c_add_72be8_2 : decode cJx4a65c_add_72be8 2 = .ok (.arraylength, 1) := by decide +kernel
theorem dJx4a65c_add_72be8_3 : decode cJx4a65c_add_72be8 3 = .ok (.if_icmp .ne 8, 3) := by decide +kernel
theorem dJx4a65c_add_72be8_6 : decode cJx4a65c_add_72be8 6 = .ok (.aload_n 0, 1) := by decide +kernel
theorem dJx4a65c_add_72be8_7 : decode cJx4a65c_add_72be8 7 = .ok (.invokevirtual 129, 3) := by decide +kernel
theorem dJx4a65c_add_72be8_10 : decode cJx4a65c_add_72be8 10 = .ok (.astore_n 2, 1) := by decide +kernel
theorem dJx4a65c_add_72be8_11 : decode cJx4a65c_add_72be8 11 = .ok (.aload_n 2, 1) := by decide +kernel
theorem dJx4a65c_add_72be8_12 : decode cJx4a65c_add_72be8 12 = .ok (.iload_n 3, 1) := by decide +kernel
theorem dJx4a65c_add_72be8_13 : decode cJx4a65c_add_72be8 13 = .ok (.aload_n 1, 1) := by decide +kernel
theorem dJx4a65c_add_72be8_14 : decode cJx4a65c_add_72be8 14 = .ok (.aastore, 1) := by decide +kernel
theorem dJx4a65c_add_72be8_15 : decode cJx4a65c_add_72be8 15 = .ok (.aload_n 0, 1) := by decide +kernel
theorem dJx4a65c_add_72be8_16 : decode cJx4a65c_add_72be8 16 = .ok (.iload_n 3, 1) := by decide +kernel
theorem dJx4a65c_add_72be8_17 : decode cJx4a65c_add_72be8 17 = .ok (.iconst 1, 1) := by decide +kernel
theorem dJx4a65c_add_72be8_18 : decode cJx4a65c_add_72be8 18 = .ok (.iadd, 1) := by decide +kernel
theorem dJx4a65c_add_72be8_19 : decode cJx4a65c_add_72be8 19 = .ok (.putfield 48, 3) := by decide +kernel
theorem dJx4a65c_add_72be8_22 : decode cJx4a65c_add_72be8 22 = .ok (.return_, 1) := by decide +kernel
theorem dJx4a65c_add_9ea2d_0 : decode cJx4a65c_add_9ea2d 0 = .ok (.aload_n 0, 1) := by decide +kernel
theorem dJx4a65c_add_9ea2d_1 : decode cJx4a65c_add_9ea2d 1 = .ok (.dup, 1) := by decide +kernel
theorem dJx4a65c_add_9ea2d_2 : decode cJx4a65c_add_9ea2d 2 = .ok (.getfield 63, 3) := by decide +kernel
theorem dJx4a65c_add_9ea2d_5 : decode cJx4a65c_add_9ea2d 5 = .ok (.iconst 1, 1) := by decide +kernel
theorem dJx4a65c_add_9ea2d_6 : decode cJx4a65c_add_9ea2d 6 = .ok (.iadd, 1) := by decide +kernel
theorem dJx4a65c_add_9ea2d_7 : decode cJx4a65c_add_9ea2d 7 = .ok (.putfield 63, 3) := by decide +kernel
theorem dJx4a65c_add_9ea2d_10 : decode cJx4a65c_add_9ea2d 10 = .ok (.aload_n 0, 1) := by decide +kernel
theorem dJx4a65c_add_9ea2d_11 : decode cJx4a65c_add_9ea2d 11 = .ok (.aload_n 1, 1) := by decide +kernel
theorem dJx4a65c_add_9ea2d_12 : decode cJx4a65c_add_9ea2d 12 = .ok (.aload_n 0, 1) := by decide +kernel
theorem dJx4a65c_add_9ea2d_13 : decode cJx4a65c_add_9ea2d 13 = .ok (.getfield 9, 3) := by decide +kernel
theorem dJx4a65c_add_9ea2d_16 : decode cJx4a65c_add_9ea2d 16 = .ok (.aload_n 0, 1) := by decide +kernel
theorem dJx4a65c_add_9ea2d_17 : decode cJx4a65c_add_9ea2d 17 = .ok (.getfield 48, 3) := by decide +kernel
theorem dJx4a65c_add_9ea2d_20 : decode cJx4a65c_add_9ea2d 20 = .ok (.invokevirtual 131, 3) := by decide +kernel
theorem dJx4a65c_add_9ea2d_23 : decode cJx4a65c_add_9ea2d 23 = .ok (.iconst 1, 1) := by decide +kernel
theorem dJx4a65c_add_9ea2d_24 : decode cJx4a65c_add_9ea2d 24 = .ok (.ireturn, 1) := by decide +kernel
theorem dJx4a65c_remove_915e3_0 : decode cJx4a65c_remove_915e3 0 = .ok (.iload_n 1, 1) := by decide +kernel
theorem dJx4a65c_remove_915e3_1 : decode cJx4a65c_remove_915e3 1 = .ok (.aload_n 0, 1) := by decide +kernel
theorem dJx4a65c_remove_915e3_2 : decode cJx4a65c_remove_915e3 2 = .ok (.getfield 48, 3) := by decide +kernel
theorem dJx4a65c_remove_915e3_5 : decode cJx4a65c_remove_915e3 5 = .ok (.invokestatic 118, 3) := by decide +kernel
theorem dJx4a65c_remove_915e3_8 : decode cJx4a65c_remove_915e3 8 = .ok (.pop, 1) := by decide +kernel
theorem dJx4a65c_remove_915e3_9 : decode cJx4a65c_remove_915e3 9 = .ok (.aload_n 0, 1) := by decide +kernel
theorem dJx4a65c_remove_915e3_10 : decode cJx4a65c_remove_915e3 10 = .ok (.getfield 9, 3) := by decide +kernel
theorem dJx4a65c_remove_915e3_13 : decode cJx4a65c_remove_915e3 13 = .ok (.astore_n 2, 1) := by decide +kernel
theorem dJx4a65c_remove_915e3_14 : decode cJx4a65c_remove_915e3 14 = .ok (.aload_n 2, 1) := by decide +kernel
theorem dJx4a65c_remove_915e3_15 : decode cJx4a65c_remove_915e3 15 = .ok (.iload_n 1, 1) := by decide +kernel
theorem dJx4a65c_remove_915e3_16 : decode cJx4a65c_remove_915e3 16 = .ok (.aaload, 1) := by decide +kernel
theorem dJx4a65c_remove_915e3_17 : decode cJx4a65c_remove_915e3 17 = .ok (.astore_n 3, 1) := by decide +kernel
theorem dJx4a65c_remove_915e3_18 : decode cJx4a65c_remove_915e3 18 = .ok (.aload_n 0, 1) := by decide +kernel
theorem dJx4a65c_remove_915e3_19 : decode cJx4a65c_remove_915e3 19 = .ok (.aload_n 2, 1) := by decide +kernel
theorem dJx4a65c_remove_915e3_20 : decode cJx4a65c_remove_915e3 20 = .ok (.iload_n 1, 1) := by decide +kernel
theorem dJx4a65c_remove_915e3_21 : decode cJx4a65c_remove_915e3 21 = .ok (.invokevirtual 144, 3) := by decide +kernel
theorem dJx4a65c_remove_915e3_24 : decode cJx4a65c_remove_915e3 24 = .ok (.aload_n 3, 1) := by decide +kernel
theorem dJx4a65c_remove_915e3_25 : decode cJx4a65c_remove_915e3 25 = .ok (.areturn, 1) := by decide +kernel
theorem dJx4a65c_fastRemove_b59b0_0 : decode cJx4a65c_fastRemove_b59b0 0 = .ok (.aload_n 0, 1) := by decide +kernel
theorem dJx4a65c_fastRemove_b59b0_1 : decode cJx4a65c_fastRemove_b59b0 1 = .ok (.dup, 1) := by decide +kernel
theorem dJx4a65c_fastRemove_b59b0_2 : decode cJx4a65c_fastRemove_b59b0 2 = .ok (.getfield 63, 3) := by decide +kernel
theorem dJx4a65c_fastRemove_b59b0_5 : decode cJx4a65c_fastRemove_b59b0 5 = .ok (.iconst 1, 1) := by decide +kernel
theorem dJx4a65c_fastRemove_b59b0_6 : decode cJx4a65c_fastRemove_b59b0 6 = .ok (.iadd, 1) := by decide +kernel
theorem dJx4a65c_fastRemove_b59b0_7 : decode cJx4a65c_fastRemove_b59b0 7 = .ok (.putfield 63, 3) := by decide +kernel
theorem dJx4a65c_fastRemove_b59b0_10 : decode cJx4a65c_fastRemove_b59b0 10 = .ok (.aload_n 0, 1) := by decide +kernel
theorem dJx4a65c_fastRemove_b59b0_11 : decode cJx4a65c_fastRemove_b59b0 11 = .ok (.getfield 48, 3) := by decide +kernel
theorem dJx4a65c_fastRemove_b59b0_14 : decode cJx4a65c_fastRemove_b59b0 14 = .ok (.iconst 1, 1) := by decide +kernel
theorem dJx4a65c_fastRemove_b59b0_15 : decode cJx4a65c_fastRemove_b59b0 15 = .ok (.isub, 1) := by decide +kernel
theorem dJx4a65c_fastRemove_b59b0_16 : decode cJx4a65c_fastRemove_b59b0 16 = .ok (.dup, 1) := by decide +kernel
theorem dJx4a65c_fastRemove_b59b0_17 : decode cJx4a65c_fastRemove_b59b0 17 = .ok (.istore_n 3, 1) := by decide +kernel
theorem dJx4a65c_fastRemove_b59b0_18 : decode cJx4a65c_fastRemove_b59b0 18 = .ok (.iload_n 2, 1) := by decide +kernel
theorem dJx4a65c_fastRemove_b59b0_19 : decode cJx4a65c_fastRemove_b59b0 19 = .ok (.if_icmp .le 15, 3) := by decide +kernel
theorem dJx4a65c_fastRemove_b59b0_22 : decode cJx4a65c_fastRemove_b59b0 22 = .ok (.aload_n 1, 1) := by decide +kernel
theorem dJx4a65c_fastRemove_b59b0_23 : decode cJx4a65c_fastRemove_b59b0 23 = .ok (.iload_n 2, 1) := by decide +kernel
theorem dJx4a65c_fastRemove_b59b0_24 : decode cJx4a65c_fastRemove_b59b0 24 = .ok (.iconst 1, 1) := by decide +kernel
theorem dJx4a65c_fastRemove_b59b0_25 : decode cJx4a65c_fastRemove_b59b0 25 = .ok (.iadd, 1) := by decide +kernel
theorem dJx4a65c_fastRemove_b59b0_26 : decode cJx4a65c_fastRemove_b59b0 26 = .ok (.aload_n 1, 1) := by decide +kernel
theorem dJx4a65c_fastRemove_b59b0_27 : decode cJx4a65c_fastRemove_b59b0 27 = .ok (.iload_n 2, 1) := by decide +kernel
theorem dJx4a65c_fastRemove_b59b0_28 : decode cJx4a65c_fastRemove_b59b0 28 = .ok (.iload_n 3, 1) := by decide +kernel
theorem dJx4a65c_fastRemove_b59b0_29 : decode cJx4a65c_fastRemove_b59b0 29 = .ok (.iload_n 2, 1) := by decide +kernel
theorem dJx4a65c_fastRemove_b59b0_30 : decode cJx4a65c_fastRemove_b59b0 30 = .ok (.isub, 1) := by decide +kernel
theorem dJx4a65c_fastRemove_b59b0_31 : decode cJx4a65c_fastRemove_b59b0 31 = .ok (.invokestatic 112, 3) := by decide +kernel
theorem dJx4a65c_fastRemove_b59b0_34 : decode cJx4a65c_fastRemove_b59b0 34 = .ok (.aload_n 1, 1) := by decide +kernel
theorem dJx4a65c_fastRemove_b59b0_35 : decode cJx4a65c_fastRemove_b59b0 35 = .ok (.aload_n 0, 1) := by decide +kernel
theorem dJx4a65c_fastRemove_b59b0_36 : decode cJx4a65c_fastRemove_b59b0 36 = .ok (.iload_n 3, 1) := by decide +kernel
theorem dJx4a65c_fastRemove_b59b0_37 : decode cJx4a65c_fastRemove_b59b0 37 = .ok (.dup_x1, 1) := by decide +kernel
theorem dJx4a65c_fastRemove_b59b0_38 : decode cJx4a65c_fastRemove_b59b0 38 = .ok (.putfield 48, 3) := by decide +kernel
theorem dJx4a65c_fastRemove_b59b0_41 : decode cJx4a65c_fastRemove_b59b0 41 = .ok (.aconst_null, 1) := by decide +kernel
theorem dJx4a65c_fastRemove_b59b0_42 : decode cJx4a65c_fastRemove_b59b0 42 = .ok (.aastore, 1) := by decide +kernel
theorem dJx4a65c_fastRemove_b59b0_43 : decode cJx4a65c_fastRemove_b59b0 43 = .ok (.return_, 1) := by decide +kernel
theorem dJ7_copyOf_1904c_0 : decode cJ7_copyOf_1904c 0 = .ok (.aload_n 0, 1) := by decide +kernel
theorem dJ7_copyOf_1904c_1 : decode cJ7_copyOf_1904c 1 = .ok (.iload_n 1, 1) := by decide +kernel
theorem dJ7_copyOf_1904c_2 : decode cJ7_copyOf_1904c 2 = .ok (.aload_n 0, 1) := by decide +kernel
theorem dJ7_copyOf_1904c_3 : decode cJ7_copyOf_1904c 3 = .ok (.invokevirtual 86, 3) := by decide +kernel
theorem dJ7_copyOf_1904c_6 : decode cJ7_copyOf_1904c 6 = .ok (.invokestatic 300, 3) := by decide +kernel
theorem dJ7_copyOf_1904c_9 : decode cJ7_copyOf_1904c 9 = .ok (.areturn, 1) := by decide +kernel
theorem dJ7_copyOf_6403c_0 : decode cJ7_copyOf_6403c 0 = .ok (.aload_n 2, 1) := by decide +kernel
theorem dJ7_copyOf_6403c_1 : decode cJ7_copyOf_6403c 1 = .ok (.ldc 110, 2) := by decide +kernel
theorem dJ7_copyOf_6403c_3 : decode cJ7_copyOf_6403c 3 = .ok (.if_acmp .ne 10, 3) := by decide +kernel
theorem dJ7_copyOf_6403c_6 : decode cJ7_copyOf_6403c 6 = .ok (.iload_n 1, 1) := by decide +kernel
theorem dJ7_copyOf_6403c_7 : decode cJ7_copyOf_6403c 7 = .ok (.anewarray 2, 3) := by decide +kernel
theorem dJ7_copyOf_6403c_10 : decode cJ7_copyOf_6403c 10 = .ok (.goto 14, 3) := by decide +kernel
theorem dJ7_copyOf_6403c_13 : decode cJ7_copyOf_6403c 13 = .ok (.aload_n 2, 1) := by decide +kernel
theorem dJ7_copyOf_6403c_14 : decode cJ7_copyOf_6403c 14 = .ok (.invokevirtual 90, 3) := by decide +kernel
theorem dJ7_copyOf_6403c_17 : decode cJ7_copyOf_6403c 17 = .ok (.iload_n 1, 1) := by decide +kernel
theorem dJ7_copyOf_6403c_18 : decode cJ7_copyOf_6403c 18 = .ok (.invokestatic 95, 3) := by decide +kernel
theorem dJ7_copyOf_6403c_21 : decode cJ7_copyOf_6403c 21 = .ok (.checkcast 110, 3) := by decide +kernel
theorem dJ7_copyOf_6403c_24 : decode cJ7_copyOf_6403c 24 = .ok (.astore_n 3, 1) := by decide +kernel
theorem dJ7_copyOf_6403c_25 : decode cJ7_copyOf_6403c 25 = .ok (.aload_n 0, 1) := by decide +kernel
theorem dJ7_copyOf_6403c_26 : decode cJ7_copyOf_6403c 26 = .ok (.iconst 0, 1) := by decide +kernel
theorem dJ7_copyOf_6403c_27 : decode cJ7_copyOf_6403c 27 = .ok (.aload_n 3, 1) := by decide +kernel
theorem dJ7_copyOf_6403c_28 : decode cJ7_copyOf_6403c 28 = .ok (.iconst 0, 1) := by decide +kernel
theorem dJ7_copyOf_6403c_29 : decode cJ7_copyOf_6403c 29 = .ok (.aload_n 0, 1) := by decide +kernel
theorem dJ7_copyOf_6403c_30 : decode cJ7_copyOf_6403c 30 = .ok (.arraylength, 1) := by decide +kernel
theorem dJ7_copyOf_6403c_31 : decode cJ7_copyOf_6403c 31 = .ok (.iload_n 1, 1) := by decide +kernel
theorem dJ7_copyOf_6403c_32 : decode cJ7_copyOf_6403c 32 = .ok (.invokestatic 304, 3) := by decide +kernel
theorem dJ7_copyOf_6403c_35 : decode cJ7_copyOf_6403c 35 = .ok (.invokestatic 150, 3) := by decide +kernel
theorem dJ7_copyOf_6403c_38 : decode cJ7_copyOf_6403c 38 = .ok (.aload_n 3, 1) := by decide +kernel
theorem dJ7_copyOf_6403c_39 : decode cJ7_copyOf_6403c 39 = .ok (.areturn, 1) := by decide +kernel
theorem dJ15_checkIndex_7cf53_0 : decode cJ15_checkIndex_7cf53 0 = .ok (.iload_n 0, 1) := by decide +kernel
theorem dJ15_checkIndex_7cf53_1 : decode cJ15_checkIndex_7cf53 1 = .ok (.iload_n 1, 1) := by decide +kernel
theorem dJ15_checkIndex_7cf53_2 : decode cJ15_checkIndex_7cf53 2 = .ok (.aconst_null, 1) := by decide +kernel
theorem dJ15_checkIndex_7cf53_3 : decode cJ15_checkIndex_7cf53 3 = .ok (.invokestatic 105, 3) := by decide +kernel
theorem dJ15_checkIndex_7cf53_6 : decode cJ15_checkIndex_7cf53 6 = .ok (.ireturn, 1) := by decide +kernel
theorem dJ8_newLength_cabcc_0 : decode cJ8_newLength_cabcc 0 = .ok (.iload_n 0, 1) := by decide +kernel
theorem dJ8_newLength_cabcc_1 : decode cJ8_newLength_cabcc 1 = .ok (.iload_n 1, 1) := by decide +kernel
theorem dJ8_newLength_cabcc_2 : decode cJ8_newLength_cabcc 2 = .ok (.iload_n 2, 1) := by decide +kernel
theorem dJ8_newLength_cabcc_3 : decode cJ8_newLength_cabcc 3 = .ok (.invokestatic 194, 3) := by decide +kernel
theorem dJ8_newLength_cabcc_6 : decode cJ8_newLength_cabcc 6 = .ok (.iadd, 1) := by decide +kernel
theorem dJ8_newLength_cabcc_7 : decode cJ8_newLength_cabcc 7 = .ok (.istore_n 3, 1) := by decide +kernel
theorem dJ8_newLength_cabcc_8 : decode cJ8_newLength_cabcc 8 = .ok (.iconst 0, 1) := by decide +kernel
theorem dJ8_newLength_cabcc_9 : decode cJ8_newLength_cabcc 9 = .ok (.iload_n 3, 1) := by decide +kernel
theorem dJ8_newLength_cabcc_10 : decode cJ8_newLength_cabcc 10 = .ok (.if_icmp .ge 11, 3) := by decide +kernel
theorem dJ8_newLength_cabcc_13 : decode cJ8_newLength_cabcc 13 = .ok (.iload_n 3, 1) := by decide +kernel
theorem dJ8_newLength_cabcc_14 : decode cJ8_newLength_cabcc 14 = .ok (.ldc 200, 2) := by decide +kernel
theorem dJ8_newLength_cabcc_16 : decode cJ8_newLength_cabcc 16 = .ok (.if_icmp .gt 5, 3) := by decide +kernel
theorem dJ8_newLength_cabcc_19 : decode cJ8_newLength_cabcc 19 = .ok (.iload_n 3, 1) := by decide +kernel
theorem dJ8_newLength_cabcc_20 : decode cJ8_newLength_cabcc 20 = .ok (.ireturn, 1) := by decide +kernel
theorem dJ8_newLength_cabcc_21 : decode cJ8_newLength_cabcc 21 = .ok (.iload_n 0, 1) := by decide +kernel
theorem dJ8_newLength_cabcc_22 : decode cJ8_newLength_cabcc 22 = .ok (.iload_n 1, 1) := by decide +kernel
theorem dJ8_newLength_cabcc_23 : decode cJ8_newLength_cabcc 23 = .ok (.invokestatic 201, 3) := by decide +kernel
theorem dJ8_newLength_cabcc_26 : decode cJ8_newLength_cabcc 26 = .ok (.ireturn, 1) := by decide +kernel
theorem dJ8_hugeLength_7cf53_0 : decode cJ8_hugeLength_7cf53 0 = .ok (.iload_n 0, 1) := by decide +kernel
theorem dJ8_hugeLength_7cf53_1 : decode cJ8_hugeLength_7cf53 1 = .ok (.iload_n 1, 1) := by decide +kernel
theorem dJ8_hugeLength_7cf53_2 : decode cJ8_hugeLength_7cf53 2 = .ok (.iadd, 1) := by decide +kernel
theorem dJ8_hugeLength_7cf53_3 : decode cJ8_hugeLength_7cf53 3 = .ok (.istore_n 2, 1) := by decide +kernel
theorem dJ8_hugeLength_7cf53_4 : decode cJ8_hugeLength_7cf53 4 = .ok (.iload_n 2, 1) := by decide +kernel
theorem dJ8_hugeLength_7cf53_5 : decode cJ8_hugeLength_7cf53 5 = .ok (.ifCond .ge 44, 3) := by decide +kernel
theorem dJ8_hugeLength_7cf53_8 : decode cJ8_hugeLength_7cf53 8 = .ok (.new 204, 3) := by decide +kernel
theorem dJ8_hugeLength_7cf53_11 : decode cJ8_hugeLength_7cf53 11 = .ok (.dup, 1) := by decide +kernel
theorem dJ8_hugeLength_7cf53_12 : decode cJ8_hugeLength_7cf53 12 = .ok (.new 89, 3) := by decide +kernel
theorem dJ8_hugeLength_7cf53_15 : decode cJ8_hugeLength_7cf53 15 = .ok (.dup, 1) := by decide +kernel
theorem dJ8_hugeLength_7cf53_16 : decode cJ8_hugeLength_7cf53 16 = .ok (.invokespecial 91, 3) := by decide +kernel
theorem dJ8_hugeLength_7cf53_19 : decode cJ8_hugeLength_7cf53 19 = .ok (.ldc 206, 2) := by decide +kernel
theorem dJ8_hugeLength_7cf53_21 : decode cJ8_hugeLength_7cf53 21 = .ok (.invokevirtual 94, 3) := by decide +kernel
theorem dJ8_hugeLength_7cf53_24 : decode cJ8_hugeLength_7cf53 24 = .ok (.iload_n 0, 1) := by decide +kernel
theorem dJ8_hugeLength_7cf53_25 : decode cJ8_hugeLength_7cf53 25 = .ok (.invokevirtual 98, 3) := by decide +kernel
theorem dJ8_hugeLength_7cf53_28 : decode cJ8_hugeLength_7cf53 28 = .ok (.ldc 208, 2) := by decide +kernel
theorem dJ8_hugeLength_7cf53_30 : decode cJ8_hugeLength_7cf53 30 = .ok (.invokevirtual 94, 3) := by decide +kernel
theorem dJ8_hugeLength_7cf53_33 : decode cJ8_hugeLength_7cf53 33 = .ok (.iload_n 1, 1) := by decide +kernel
theorem dJ8_hugeLength_7cf53_34 : decode cJ8_hugeLength_7cf53 34 = .ok (.invokevirtual 98, 3) := by decide +kernel
theorem dJ8_hugeLength_7cf53_37 : decode cJ8_hugeLength_7cf53 37 = .ok (.ldc 210, 2) := by decide +kernel
theorem dJ8_hugeLength_7cf53_39 : decode cJ8_hugeLength_7cf53 39 = .ok (.invokevirtual 94, 3) := by decide +kernel
theorem dJ8_hugeLength_7cf53_42 : decode cJ8_hugeLength_7cf53 42 = .ok (.invokevirtual 101, 3) := by decide +kernel
theorem dJ8_hugeLength_7cf53_45 : decode cJ8_hugeLength_7cf53 45 = .ok (.invokespecial 212, 3) := by decide +kernel
theorem dJ8_hugeLength_7cf53_48 : decode cJ8_hugeLength_7cf53 48 = .ok (.athrow, 1) := by decide +kernel
theorem dJ8_hugeLength_7cf53_49 : decode cJ8_hugeLength_7cf53 49 = .ok (.iload_n 2, 1) := by decide +kernel
theorem dJ8_hugeLength_7cf53_50 : decode cJ8_hugeLength_7cf53 50 = .ok (.ldc 200, 2) := by decide +kernel
theorem dJ8_hugeLength_7cf53_52 : decode cJ8_hugeLength_7cf53 52 = .ok (.if_icmp .gt 6, 3) := by decide +kernel
theorem dJ8_hugeLength_7cf53_55 : decode cJ8_hugeLength_7cf53 55 = .ok (.ldc 200, 2) := by decide +kernel
theorem dJ8_hugeLength_7cf53_57 : decode cJ8_hugeLength_7cf53 57 = .ok (.ireturn, 1) := by decide +kernel
theorem dJ8_hugeLength_7cf53_58 : decode cJ8_hugeLength_7cf53 58 = .ok (.iload_n 2, 1) := by decide +kernel
theorem dJ8_hugeLength_7cf53_59 : decode cJ8_hugeLength_7cf53 59 = .ok (.ireturn, 1) := by decide +kernel
theorem dJ3_checkIndex_8e157_0 : decode cJ3_checkIndex_8e157 0 = .ok (.iload_n 0, 1) := by decide +kernel
theorem dJ3_checkIndex_8e157_1 : decode cJ3_checkIndex_8e157 1 = .ok (.ifCond .lt 8, 3) := by decide +kernel
theorem dJ3_checkIndex_8e157_4 : decode cJ3_checkIndex_8e157 4 = .ok (.iload_n 0, 1) := by decide +kernel
theorem dJ3_checkIndex_8e157_5 : decode cJ3_checkIndex_8e157 5 = .ok (.iload_n 1, 1) := by decide +kernel
theorem dJ3_checkIndex_8e157_6 : decode cJ3_checkIndex_8e157 6 = .ok (.if_icmp .lt 10, 3) := by decide +kernel
theorem dJ3_checkIndex_8e157_9 : decode cJ3_checkIndex_8e157 9 = .ok (.aload_n 2, 1) := by decide +kernel
theorem dJ3_checkIndex_8e157_10 : decode cJ3_checkIndex_8e157 10 = .ok (.iload_n 0, 1) := by decide +kernel
theorem dJ3_checkIndex_8e157_11 : decode cJ3_checkIndex_8e157 11 = .ok (.iload_n 1, 1) := by decide +kernel
theorem dJ3_checkIndex_8e157_12 : decode cJ3_checkIndex_8e157 12 = .ok (.invokestatic 95, 3) := by decide +kernel
theorem dJ3_checkIndex_8e157_15 : decode cJ3_checkIndex_8e157 15 = .ok (.athrow, 1) := by decide +kernel
theorem dJ3_checkIndex_8e157_16 : decode cJ3_checkIndex_8e157 16 = .ok (.iload_n 0, 1) := by decide +kernel
theorem dJ3_checkIndex_8e157_17 : decode cJ3_checkIndex_8e157 17 = .ok (.ireturn, 1) := by decide +kernel
theorem dL_power_0 : decode cL_power 0 = .ok (.aload_n 3, 1) := by decide +kernel
theorem dL_power_1 : decode cL_power 1 = .ok (.iconst 0, 1) := by decide +kernel
theorem dL_power_2 : decode cL_power 2 = .ok (.aload_n 0, 1) := by decide +kernel
theorem dL_power_3 : decode cL_power 3 = .ok (.iload_n 1, 1) := by decide +kernel
theorem dL_power_4 : decode cL_power 4 = .ok (.iload_n 2, 1) := by decide +kernel
theorem dL_power_5 : decode cL_power 5 = .ok (.invokevirtual 7, 3) := by decide +kernel
theorem dL_power_8 : decode cL_power 8 = .ok (.i2l, 1) := by decide +kernel
theorem dL_power_9 : decode cL_power 9 = .ok (.lastore, 1) := by decide +kernel
theorem dL_power_10 : decode cL_power 10 = .ok (.goto 11, 3) := by decide +kernel
theorem dL_power_13 : decode cL_power 13 = .ok (.astore 4, 2) := by decide +kernel
theorem dL_power_15 : decode cL_power 15 = .ok (.iconst 1, 1) := by decide +kernel
theorem dL_power_16 : decode cL_power 16 = .ok (.ireturn, 1) := by decide +kernel
theorem dL_power_17 : decode cL_power 17 = .ok (.astore 4, 2) := by decide +kernel
theorem dL_power_19 : decode cL_power 19 = .ok (.iconst 2, 1) := by decide +kernel
theorem dL_power_20 : decode cL_power 20 = .ok (.ireturn, 1) := by decide +kernel
theorem dL_power_21 : decode cL_power 21 = .ok (.iconst 0, 1) := by decide +kernel
theorem dL_power_22 : decode cL_power 22 = .ok (.ireturn, 1) := by decide +kernel
theorem dL_knows_0 : decode cL_knows 0 = .ok (.aload 5, 2) := by decide +kernel
theorem dL_knows_2 : decode cL_knows 2 = .ok (.iconst 0, 1) := by decide +kernel
theorem dL_knows_3 : decode cL_knows 3 = .ok (.aload_n 0, 1) := by decide +kernel
theorem dL_knows_4 : decode cL_knows 4 = .ok (.iload_n 1, 1) := by decide +kernel
theorem dL_knows_5 : decode cL_knows 5 = .ok (.iload_n 2, 1) := by decide +kernel
theorem dL_knows_6 : decode cL_knows 6 = .ok (.iload_n 3, 1) := by decide +kernel
theorem dL_knows_7 : decode cL_knows 7 = .ok (.iload 4, 2) := by decide +kernel
theorem dL_knows_9 : decode cL_knows 9 = .ok (.invokevirtual 17, 3) := by decide +kernel
theorem dL_knows_12 : decode cL_knows 12 = .ok (.i2l, 1) := by decide +kernel
theorem dL_knows_13 : decode cL_knows 13 = .ok (.lastore, 1) := by decide +kernel
theorem dL_knows_14 : decode cL_knows 14 = .ok (.goto 11, 3) := by decide +kernel
theorem dL_knows_17 : decode cL_knows 17 = .ok (.astore 6, 2) := by decide +kernel
theorem dL_knows_19 : decode cL_knows 19 = .ok (.iconst 1, 1) := by decide +kernel
theorem dL_knows_20 : decode cL_knows 20 = .ok (.ireturn, 1) := by decide +kernel
theorem dL_knows_21 : decode cL_knows 21 = .ok (.astore 6, 2) := by decide +kernel
theorem dL_knows_23 : decode cL_knows 23 = .ok (.iconst 2, 1) := by decide +kernel
theorem dL_knows_24 : decode cL_knows 24 = .ok (.ireturn, 1) := by decide +kernel
theorem dL_knows_25 : decode cL_knows 25 = .ok (.iconst 0, 1) := by decide +kernel
theorem dL_knows_26 : decode cL_knows 26 = .ok (.ireturn, 1) := by decide +kernel
theorem dL_believe_0 : decode cL_believe 0 = .ok (.aload 4, 2) := by decide +kernel
theorem dL_believe_2 : decode cL_believe 2 = .ok (.iconst 0, 1) := by decide +kernel
theorem dL_believe_3 : decode cL_believe 3 = .ok (.aload_n 0, 1) := by decide +kernel
theorem dL_believe_4 : decode cL_believe 4 = .ok (.iload_n 1, 1) := by decide +kernel
theorem dL_believe_5 : decode cL_believe 5 = .ok (.iload_n 2, 1) := by decide +kernel
theorem dL_believe_6 : decode cL_believe 6 = .ok (.iload_n 3, 1) := by decide +kernel
theorem dL_believe_7 : decode cL_believe 7 = .ok (.invokevirtual 21, 3) := by decide +kernel
theorem dL_believe_10 : decode cL_believe 10 = .ok (.i2l, 1) := by decide +kernel
theorem dL_believe_11 : decode cL_believe 11 = .ok (.lastore, 1) := by decide +kernel
theorem dL_believe_12 : decode cL_believe 12 = .ok (.goto 11, 3) := by decide +kernel
theorem dL_believe_15 : decode cL_believe 15 = .ok (.astore 5, 2) := by decide +kernel
theorem dL_believe_17 : decode cL_believe 17 = .ok (.iconst 1, 1) := by decide +kernel
theorem dL_believe_18 : decode cL_believe 18 = .ok (.ireturn, 1) := by decide +kernel
theorem dL_believe_19 : decode cL_believe 19 = .ok (.astore 5, 2) := by decide +kernel
theorem dL_believe_21 : decode cL_believe 21 = .ok (.iconst 2, 1) := by decide +kernel
theorem dL_believe_22 : decode cL_believe 22 = .ok (.ireturn, 1) := by decide +kernel
theorem dL_believe_23 : decode cL_believe 23 = .ok (.iconst 0, 1) := by decide +kernel
theorem dL_believe_24 : decode cL_believe 24 = .ok (.ireturn, 1) := by decide +kernel
theorem dL_deafen_0 : decode cL_deafen 0 = .ok (.aload_n 3, 1) := by decide +kernel
theorem dL_deafen_1 : decode cL_deafen 1 = .ok (.iconst 0, 1) := by decide +kernel
theorem dL_deafen_2 : decode cL_deafen 2 = .ok (.aload_n 0, 1) := by decide +kernel
theorem dL_deafen_3 : decode cL_deafen 3 = .ok (.iload_n 1, 1) := by decide +kernel
theorem dL_deafen_4 : decode cL_deafen 4 = .ok (.iload_n 2, 1) := by decide +kernel
theorem dL_deafen_5 : decode cL_deafen 5 = .ok (.invokevirtual 25, 3) := by decide +kernel
theorem dL_deafen_8 : decode cL_deafen 8 = .ok (.i2l, 1) := by decide +kernel
theorem dL_deafen_9 : decode cL_deafen 9 = .ok (.lastore, 1) := by decide +kernel
theorem dL_deafen_10 : decode cL_deafen 10 = .ok (.goto 11, 3) := by decide +kernel
theorem dL_deafen_13 : decode cL_deafen 13 = .ok (.astore 4, 2) := by decide +kernel
theorem dL_deafen_15 : decode cL_deafen 15 = .ok (.iconst 1, 1) := by decide +kernel
theorem dL_deafen_16 : decode cL_deafen 16 = .ok (.ireturn, 1) := by decide +kernel
theorem dL_deafen_17 : decode cL_deafen 17 = .ok (.astore 4, 2) := by decide +kernel
theorem dL_deafen_19 : decode cL_deafen 19 = .ok (.iconst 2, 1) := by decide +kernel
theorem dL_deafen_20 : decode cL_deafen 20 = .ok (.ireturn, 1) := by decide +kernel
theorem dL_deafen_21 : decode cL_deafen 21 = .ok (.iconst 0, 1) := by decide +kernel
theorem dL_deafen_22 : decode cL_deafen 22 = .ok (.ireturn, 1) := by decide +kernel
theorem dL_give_0 : decode cL_give 0 = .ok (.aload_n 3, 1) := by decide +kernel
theorem dL_give_1 : decode cL_give 1 = .ok (.iconst 0, 1) := by decide +kernel
theorem dL_give_2 : decode cL_give 2 = .ok (.aload_n 0, 1) := by decide +kernel
theorem dL_give_3 : decode cL_give 3 = .ok (.iload_n 1, 1) := by decide +kernel
theorem dL_give_4 : decode cL_give 4 = .ok (.iload_n 2, 1) := by decide +kernel
theorem dL_give_5 : decode cL_give 5 = .ok (.invokevirtual 28, 3) := by decide +kernel
theorem dL_give_8 : decode cL_give 8 = .ok (.i2l, 1) := by decide +kernel
theorem dL_give_9 : decode cL_give 9 = .ok (.lastore, 1) := by decide +kernel
theorem dL_give_10 : decode cL_give 10 = .ok (.goto 7, 3) := by decide +kernel
theorem dL_give_13 : decode cL_give 13 = .ok (.astore 4, 2) := by decide +kernel
theorem dL_give_15 : decode cL_give 15 = .ok (.iconst 1, 1) := by decide +kernel
theorem dL_give_16 : decode cL_give 16 = .ok (.ireturn, 1) := by decide +kernel
theorem dL_give_17 : decode cL_give 17 = .ok (.iconst 0, 1) := by decide +kernel
theorem dL_give_18 : decode cL_give 18 = .ok (.ireturn, 1) := by decide +kernel
theorem dL_can_0 : decode cL_can 0 = .ok (.aload 7, 2) := by decide +kernel
theorem dL_can_2 : decode cL_can 2 = .ok (.iconst 0, 1) := by decide +kernel
theorem dL_can_3 : decode cL_can 3 = .ok (.aload_n 0, 1) := by decide +kernel
theorem dL_can_4 : decode cL_can 4 = .ok (.iload_n 1, 1) := by decide +kernel
theorem dL_can_5 : decode cL_can 5 = .ok (.iload_n 2, 1) := by decide +kernel
theorem dL_can_6 : decode cL_can 6 = .ok (.iload_n 3, 1) := by decide +kernel
theorem dL_can_7 : decode cL_can 7 = .ok (.iload 4, 2) := by decide +kernel
theorem dL_can_9 : decode cL_can 9 = .ok (.iload 5, 2) := by decide +kernel
theorem dL_can_11 : decode cL_can 11 = .ok (.iload 6, 2) := by decide +kernel
theorem dL_can_13 : decode cL_can 13 = .ok (.invokevirtual 31, 3) := by decide +kernel
theorem dL_can_16 : decode cL_can 16 = .ok (.ifCond .eq 7, 3) := by decide +kernel
theorem dL_can_19 : decode cL_can 19 = .ok (.lconst 1, 1) := by decide +kernel
theorem dL_can_20 : decode cL_can 20 = .ok (.goto 4, 3) := by decide +kernel
theorem dL_can_23 : decode cL_can 23 = .ok (.lconst 0, 1) := by decide +kernel
theorem dL_can_24 : decode cL_can 24 = .ok (.lastore, 1) := by decide +kernel
theorem dL_can_25 : decode cL_can 25 = .ok (.goto 11, 3) := by decide +kernel
theorem dL_can_28 : decode cL_can 28 = .ok (.astore 8, 2) := by decide +kernel
theorem dL_can_30 : decode cL_can 30 = .ok (.iconst 1, 1) := by decide +kernel
theorem dL_can_31 : decode cL_can 31 = .ok (.ireturn, 1) := by decide +kernel
theorem dL_can_32 : decode cL_can 32 = .ok (.astore 8, 2) := by decide +kernel
theorem dL_can_34 : decode cL_can 34 = .ok (.iconst 2, 1) := by decide +kernel
theorem dL_can_35 : decode cL_can 35 = .ok (.ireturn, 1) := by decide +kernel
theorem dL_can_36 : decode cL_can 36 = .ok (.iconst 0, 1) := by decide +kernel
theorem dL_can_37 : decode cL_can 37 = .ok (.ireturn, 1) := by decide +kernel
theorem dL_say_0 : decode cL_say 0 = .ok (.aload 7, 2) := by decide +kernel
theorem dL_say_2 : decode cL_say 2 = .ok (.iconst 0, 1) := by decide +kernel
theorem dL_say_3 : decode cL_say 3 = .ok (.aload_n 0, 1) := by decide +kernel
theorem dL_say_4 : decode cL_say 4 = .ok (.iload_n 1, 1) := by decide +kernel
theorem dL_say_5 : decode cL_say 5 = .ok (.iload_n 2, 1) := by decide +kernel
theorem dL_say_6 : decode cL_say 6 = .ok (.iload_n 3, 1) := by decide +kernel
theorem dL_say_7 : decode cL_say 7 = .ok (.iload 4, 2) := by decide +kernel
theorem dL_say_9 : decode cL_say 9 = .ok (.iload 5, 2) := by decide +kernel
theorem dL_say_11 : decode cL_say 11 = .ok (.iload 6, 2) := by decide +kernel
theorem dL_say_13 : decode cL_say 13 = .ok (.invokevirtual 35, 3) := by decide +kernel
theorem dL_say_16 : decode cL_say 16 = .ok (.i2l, 1) := by decide +kernel
theorem dL_say_17 : decode cL_say 17 = .ok (.lastore, 1) := by decide +kernel
theorem dL_say_18 : decode cL_say 18 = .ok (.goto 15, 3) := by decide +kernel
theorem dL_say_21 : decode cL_say 21 = .ok (.astore 8, 2) := by decide +kernel
theorem dL_say_23 : decode cL_say 23 = .ok (.iconst 1, 1) := by decide +kernel
theorem dL_say_24 : decode cL_say 24 = .ok (.ireturn, 1) := by decide +kernel
theorem dL_say_25 : decode cL_say 25 = .ok (.astore 8, 2) := by decide +kernel
theorem dL_say_27 : decode cL_say 27 = .ok (.iconst 2, 1) := by decide +kernel
theorem dL_say_28 : decode cL_say 28 = .ok (.ireturn, 1) := by decide +kernel
theorem dL_say_29 : decode cL_say 29 = .ok (.astore 8, 2) := by decide +kernel
theorem dL_say_31 : decode cL_say 31 = .ok (.iconst 3, 1) := by decide +kernel
theorem dL_say_32 : decode cL_say 32 = .ok (.ireturn, 1) := by decide +kernel
theorem dL_say_33 : decode cL_say 33 = .ok (.iconst 0, 1) := by decide +kernel
theorem dL_say_34 : decode cL_say 34 = .ok (.ireturn, 1) := by decide +kernel
theorem dL_tick_0 : decode cL_tick 0 = .ok (.aload_n 2, 1) := by decide +kernel
theorem dL_tick_1 : decode cL_tick 1 = .ok (.iconst 0, 1) := by decide +kernel
theorem dL_tick_2 : decode cL_tick 2 = .ok (.aload_n 0, 1) := by decide +kernel
theorem dL_tick_3 : decode cL_tick 3 = .ok (.iload_n 1, 1) := by decide +kernel
theorem dL_tick_4 : decode cL_tick 4 = .ok (.invokevirtual 41, 3) := by decide +kernel
theorem dL_tick_7 : decode cL_tick 7 = .ok (.i2l, 1) := by decide +kernel
theorem dL_tick_8 : decode cL_tick 8 = .ok (.lastore, 1) := by decide +kernel
theorem dL_tick_9 : decode cL_tick 9 = .ok (.goto 6, 3) := by decide +kernel
theorem dL_tick_12 : decode cL_tick 12 = .ok (.astore_n 3, 1) := by decide +kernel
theorem dL_tick_13 : decode cL_tick 13 = .ok (.iconst 1, 1) := by decide +kernel
theorem dL_tick_14 : decode cL_tick 14 = .ok (.ireturn, 1) := by decide +kernel
theorem dL_tick_15 : decode cL_tick 15 = .ok (.iconst 0, 1) := by decide +kernel
theorem dL_tick_16 : decode cL_tick 16 = .ok (.ireturn, 1) := by decide +kernel
theorem dL_turn_0 : decode cL_turn 0 = .ok (.aload_n 3, 1) := by decide +kernel
theorem dL_turn_1 : decode cL_turn 1 = .ok (.iconst 0, 1) := by decide +kernel
theorem dL_turn_2 : decode cL_turn 2 = .ok (.aload_n 0, 1) := by decide +kernel
theorem dL_turn_3 : decode cL_turn 3 = .ok (.iload_n 1, 1) := by decide +kernel
theorem dL_turn_4 : decode cL_turn 4 = .ok (.iload_n 2, 1) := by decide +kernel
theorem dL_turn_5 : decode cL_turn 5 = .ok (.invokevirtual 45, 3) := by decide +kernel
theorem dL_turn_8 : decode cL_turn 8 = .ok (.i2l, 1) := by decide +kernel
theorem dL_turn_9 : decode cL_turn 9 = .ok (.lastore, 1) := by decide +kernel
theorem dL_turn_10 : decode cL_turn 10 = .ok (.goto 11, 3) := by decide +kernel
theorem dL_turn_13 : decode cL_turn 13 = .ok (.astore 4, 2) := by decide +kernel
theorem dL_turn_15 : decode cL_turn 15 = .ok (.iconst 1, 1) := by decide +kernel
theorem dL_turn_16 : decode cL_turn 16 = .ok (.ireturn, 1) := by decide +kernel
theorem dL_turn_17 : decode cL_turn 17 = .ok (.astore 4, 2) := by decide +kernel
theorem dL_turn_19 : decode cL_turn 19 = .ok (.iconst 2, 1) := by decide +kernel
theorem dL_turn_20 : decode cL_turn 20 = .ok (.ireturn, 1) := by decide +kernel
theorem dL_turn_21 : decode cL_turn 21 = .ok (.iconst 0, 1) := by decide +kernel
theorem dL_turn_22 : decode cL_turn 22 = .ok (.ireturn, 1) := by decide +kernel
theorem dL_heard_0 : decode cL_heard 0 = .ok (.aload_n 3, 1) := by decide +kernel
theorem dL_heard_1 : decode cL_heard 1 = .ok (.iconst 0, 1) := by decide +kernel
theorem dL_heard_2 : decode cL_heard 2 = .ok (.aload_n 0, 1) := by decide +kernel
theorem dL_heard_3 : decode cL_heard 3 = .ok (.iload_n 1, 1) := by decide +kernel
theorem dL_heard_4 : decode cL_heard 4 = .ok (.iload_n 2, 1) := by decide +kernel
theorem dL_heard_5 : decode cL_heard 5 = .ok (.invokevirtual 48, 3) := by decide +kernel
theorem dL_heard_8 : decode cL_heard 8 = .ok (.i2l, 1) := by decide +kernel
theorem dL_heard_9 : decode cL_heard 9 = .ok (.lastore, 1) := by decide +kernel
theorem dL_heard_10 : decode cL_heard 10 = .ok (.goto 7, 3) := by decide +kernel
theorem dL_heard_13 : decode cL_heard 13 = .ok (.astore 4, 2) := by decide +kernel
theorem dL_heard_15 : decode cL_heard 15 = .ok (.iconst 1, 1) := by decide +kernel
theorem dL_heard_16 : decode cL_heard 16 = .ok (.ireturn, 1) := by decide +kernel
theorem dL_heard_17 : decode cL_heard 17 = .ok (.iconst 0, 1) := by decide +kernel
theorem dL_heard_18 : decode cL_heard 18 = .ok (.ireturn, 1) := by decide +kernel
theorem dL_stand_0 : decode cL_stand 0 = .ok (.aload_n 3, 1) := by decide +kernel
theorem dL_stand_1 : decode cL_stand 1 = .ok (.iconst 0, 1) := by decide +kernel
theorem dL_stand_2 : decode cL_stand 2 = .ok (.aload_n 0, 1) := by decide +kernel
theorem dL_stand_3 : decode cL_stand 3 = .ok (.iload_n 1, 1) := by decide +kernel
theorem dL_stand_4 : decode cL_stand 4 = .ok (.iload_n 2, 1) := by decide +kernel
theorem dL_stand_5 : decode cL_stand 5 = .ok (.invokevirtual 51, 3) := by decide +kernel
theorem dL_stand_8 : decode cL_stand 8 = .ok (.i2l, 1) := by decide +kernel
theorem dL_stand_9 : decode cL_stand 9 = .ok (.lastore, 1) := by decide +kernel
theorem dL_stand_10 : decode cL_stand 10 = .ok (.goto 7, 3) := by decide +kernel
theorem dL_stand_13 : decode cL_stand 13 = .ok (.astore 4, 2) := by decide +kernel
theorem dL_stand_15 : decode cL_stand 15 = .ok (.iconst 1, 1) := by decide +kernel
theorem dL_stand_16 : decode cL_stand 16 = .ok (.ireturn, 1) := by decide +kernel
theorem dL_stand_17 : decode cL_stand 17 = .ok (.iconst 0, 1) := by decide +kernel
theorem dL_stand_18 : decode cL_stand 18 = .ok (.ireturn, 1) := by decide +kernel
theorem dL_standBy_0 : decode cL_standBy 0 = .ok (.aload_n 3, 1) := by decide +kernel
theorem dL_standBy_1 : decode cL_standBy 1 = .ok (.iconst 0, 1) := by decide +kernel
theorem dL_standBy_2 : decode cL_standBy 2 = .ok (.aload_n 0, 1) := by decide +kernel
theorem dL_standBy_3 : decode cL_standBy 3 = .ok (.iload_n 1, 1) := by decide +kernel
theorem dL_standBy_4 : decode cL_standBy 4 = .ok (.iload_n 2, 1) := by decide +kernel
theorem dL_standBy_5 : decode cL_standBy 5 = .ok (.invokevirtual 54, 3) := by decide +kernel
theorem dL_standBy_8 : decode cL_standBy 8 = .ok (.i2l, 1) := by decide +kernel
theorem dL_standBy_9 : decode cL_standBy 9 = .ok (.lastore, 1) := by decide +kernel
theorem dL_standBy_10 : decode cL_standBy 10 = .ok (.goto 7, 3) := by decide +kernel
theorem dL_standBy_13 : decode cL_standBy 13 = .ok (.astore 4, 2) := by decide +kernel
theorem dL_standBy_15 : decode cL_standBy 15 = .ok (.iconst 1, 1) := by decide +kernel
theorem dL_standBy_16 : decode cL_standBy 16 = .ok (.ireturn, 1) := by decide +kernel
theorem dL_standBy_17 : decode cL_standBy 17 = .ok (.iconst 0, 1) := by decide +kernel
theorem dL_standBy_18 : decode cL_standBy 18 = .ok (.ireturn, 1) := by decide +kernel
theorem dL_standAnew_0 : decode cL_standAnew 0 = .ok (.aload_n 3, 1) := by decide +kernel
theorem dL_standAnew_1 : decode cL_standAnew 1 = .ok (.iconst 0, 1) := by decide +kernel
theorem dL_standAnew_2 : decode cL_standAnew 2 = .ok (.aload_n 0, 1) := by decide +kernel
theorem dL_standAnew_3 : decode cL_standAnew 3 = .ok (.iload_n 1, 1) := by decide +kernel
theorem dL_standAnew_4 : decode cL_standAnew 4 = .ok (.iload_n 2, 1) := by decide +kernel
theorem dL_standAnew_5 : decode cL_standAnew 5 = .ok (.invokevirtual 57, 3) := by decide +kernel
theorem dL_standAnew_8 : decode cL_standAnew 8 = .ok (.i2l, 1) := by decide +kernel
theorem dL_standAnew_9 : decode cL_standAnew 9 = .ok (.lastore, 1) := by decide +kernel
theorem dL_standAnew_10 : decode cL_standAnew 10 = .ok (.goto 7, 3) := by decide +kernel
theorem dL_standAnew_13 : decode cL_standAnew 13 = .ok (.astore 4, 2) := by decide +kernel
theorem dL_standAnew_15 : decode cL_standAnew 15 = .ok (.iconst 1, 1) := by decide +kernel
theorem dL_standAnew_16 : decode cL_standAnew 16 = .ok (.ireturn, 1) := by decide +kernel
theorem dL_standAnew_17 : decode cL_standAnew 17 = .ok (.iconst 0, 1) := by decide +kernel
theorem dL_standAnew_18 : decode cL_standAnew 18 = .ok (.ireturn, 1) := by decide +kernel
theorem dL_hint_0 : decode cL_hint 0 = .ok (.aload_n 3, 1) := by decide +kernel
theorem dL_hint_1 : decode cL_hint 1 = .ok (.iconst 0, 1) := by decide +kernel
theorem dL_hint_2 : decode cL_hint 2 = .ok (.aload_n 0, 1) := by decide +kernel
theorem dL_hint_3 : decode cL_hint 3 = .ok (.iload_n 1, 1) := by decide +kernel
theorem dL_hint_4 : decode cL_hint 4 = .ok (.iload_n 2, 1) := by decide +kernel
theorem dL_hint_5 : decode cL_hint 5 = .ok (.invokevirtual 60, 3) := by decide +kernel
theorem dL_hint_8 : decode cL_hint 8 = .ok (.i2l, 1) := by decide +kernel
theorem dL_hint_9 : decode cL_hint 9 = .ok (.lastore, 1) := by decide +kernel
theorem dL_hint_10 : decode cL_hint 10 = .ok (.goto 7, 3) := by decide +kernel
theorem dL_hint_13 : decode cL_hint 13 = .ok (.astore 4, 2) := by decide +kernel
theorem dL_hint_15 : decode cL_hint 15 = .ok (.iconst 1, 1) := by decide +kernel
theorem dL_hint_16 : decode cL_hint 16 = .ok (.ireturn, 1) := by decide +kernel
theorem dL_hint_17 : decode cL_hint 17 = .ok (.iconst 0, 1) := by decide +kernel
theorem dL_hint_18 : decode cL_hint 18 = .ok (.ireturn, 1) := by decide +kernel
theorem dL_isSupported_0 : decode cL_isSupported 0 = .ok (.aload_n 3, 1) := by decide +kernel
theorem dL_isSupported_1 : decode cL_isSupported 1 = .ok (.iconst 0, 1) := by decide +kernel
theorem dL_isSupported_2 : decode cL_isSupported 2 = .ok (.aload_n 0, 1) := by decide +kernel
theorem dL_isSupported_3 : decode cL_isSupported 3 = .ok (.iload_n 1, 1) := by decide +kernel
theorem dL_isSupported_4 : decode cL_isSupported 4 = .ok (.iload_n 2, 1) := by decide +kernel
theorem dL_isSupported_5 : decode cL_isSupported 5 = .ok (.invokevirtual 63, 3) := by decide +kernel
theorem dL_isSupported_8 : decode cL_isSupported 8 = .ok (.ifCond .eq 7, 3) := by decide +kernel
theorem dL_isSupported_11 : decode cL_isSupported 11 = .ok (.lconst 1, 1) := by decide +kernel
theorem dL_isSupported_12 : decode cL_isSupported 12 = .ok (.goto 4, 3) := by decide +kernel
theorem dL_isSupported_15 : decode cL_isSupported 15 = .ok (.lconst 0, 1) := by decide +kernel
theorem dL_isSupported_16 : decode cL_isSupported 16 = .ok (.lastore, 1) := by decide +kernel
theorem dL_isSupported_17 : decode cL_isSupported 17 = .ok (.goto 7, 3) := by decide +kernel
theorem dL_isSupported_20 : decode cL_isSupported 20 = .ok (.astore 4, 2) := by decide +kernel
theorem dL_isSupported_22 : decode cL_isSupported 22 = .ok (.iconst 1, 1) := by decide +kernel
theorem dL_isSupported_23 : decode cL_isSupported 23 = .ok (.ireturn, 1) := by decide +kernel
theorem dL_isSupported_24 : decode cL_isSupported 24 = .ok (.iconst 0, 1) := by decide +kernel
theorem dL_isSupported_25 : decode cL_isSupported 25 = .ok (.ireturn, 1) := by decide +kernel
theorem dL_lies_0 : decode cL_lies 0 = .ok (.aload_n 2, 1) := by decide +kernel
theorem dL_lies_1 : decode cL_lies 1 = .ok (.iconst 0, 1) := by decide +kernel
theorem dL_lies_2 : decode cL_lies 2 = .ok (.aload_n 0, 1) := by decide +kernel
theorem dL_lies_3 : decode cL_lies 3 = .ok (.iload_n 1, 1) := by decide +kernel
theorem dL_lies_4 : decode cL_lies 4 = .ok (.invokevirtual 67, 3) := by decide +kernel
theorem dL_lies_7 : decode cL_lies 7 = .ok (.i2l, 1) := by decide +kernel
theorem dL_lies_8 : decode cL_lies 8 = .ok (.lastore, 1) := by decide +kernel
theorem dL_lies_9 : decode cL_lies 9 = .ok (.goto 6, 3) := by decide +kernel
theorem dL_lies_12 : decode cL_lies 12 = .ok (.astore_n 3, 1) := by decide +kernel
theorem dL_lies_13 : decode cL_lies 13 = .ok (.iconst 1, 1) := by decide +kernel
theorem dL_lies_14 : decode cL_lies 14 = .ok (.ireturn, 1) := by decide +kernel
theorem dL_lies_15 : decode cL_lies 15 = .ok (.iconst 0, 1) := by decide +kernel
theorem dL_lies_16 : decode cL_lies 16 = .ok (.ireturn, 1) := by decide +kernel
theorem dL_ground_0 : decode cL_ground 0 = .ok (.aload_n 3, 1) := by decide +kernel
theorem dL_ground_1 : decode cL_ground 1 = .ok (.iconst 0, 1) := by decide +kernel
theorem dL_ground_2 : decode cL_ground 2 = .ok (.aload_n 0, 1) := by decide +kernel
theorem dL_ground_3 : decode cL_ground 3 = .ok (.iload_n 1, 1) := by decide +kernel
theorem dL_ground_4 : decode cL_ground 4 = .ok (.iload_n 2, 1) := by decide +kernel
theorem dL_ground_5 : decode cL_ground 5 = .ok (.invokevirtual 70, 3) := by decide +kernel
theorem dL_ground_8 : decode cL_ground 8 = .ok (.i2l, 1) := by decide +kernel
theorem dL_ground_9 : decode cL_ground 9 = .ok (.lastore, 1) := by decide +kernel
theorem dL_ground_10 : decode cL_ground 10 = .ok (.goto 11, 3) := by decide +kernel
theorem dL_ground_13 : decode cL_ground 13 = .ok (.astore 4, 2) := by decide +kernel
theorem dL_ground_15 : decode cL_ground 15 = .ok (.iconst 1, 1) := by decide +kernel
theorem dL_ground_16 : decode cL_ground 16 = .ok (.ireturn, 1) := by decide +kernel
theorem dL_ground_17 : decode cL_ground 17 = .ok (.astore 4, 2) := by decide +kernel
theorem dL_ground_19 : decode cL_ground 19 = .ok (.iconst 2, 1) := by decide +kernel
theorem dL_ground_20 : decode cL_ground 20 = .ok (.ireturn, 1) := by decide +kernel
theorem dL_ground_21 : decode cL_ground 21 = .ok (.iconst 0, 1) := by decide +kernel
theorem dL_ground_22 : decode cL_ground 22 = .ok (.ireturn, 1) := by decide +kernel
theorem dL_question_0 : decode cL_question 0 = .ok (.aload_n 3, 1) := by decide +kernel
theorem dL_question_1 : decode cL_question 1 = .ok (.iconst 0, 1) := by decide +kernel
theorem dL_question_2 : decode cL_question 2 = .ok (.aload_n 0, 1) := by decide +kernel
theorem dL_question_3 : decode cL_question 3 = .ok (.iload_n 1, 1) := by decide +kernel
theorem dL_question_4 : decode cL_question 4 = .ok (.iload_n 2, 1) := by decide +kernel
theorem dL_question_5 : decode cL_question 5 = .ok (.invokevirtual 73, 3) := by decide +kernel
theorem dL_question_8 : decode cL_question 8 = .ok (.i2l, 1) := by decide +kernel
theorem dL_question_9 : decode cL_question 9 = .ok (.lastore, 1) := by decide +kernel
theorem dL_question_10 : decode cL_question 10 = .ok (.goto 11, 3) := by decide +kernel
theorem dL_question_13 : decode cL_question 13 = .ok (.astore 4, 2) := by decide +kernel
theorem dL_question_15 : decode cL_question 15 = .ok (.iconst 1, 1) := by decide +kernel
theorem dL_question_16 : decode cL_question 16 = .ok (.ireturn, 1) := by decide +kernel
theorem dL_question_17 : decode cL_question 17 = .ok (.astore 4, 2) := by decide +kernel
theorem dL_question_19 : decode cL_question 19 = .ok (.iconst 2, 1) := by decide +kernel
theorem dL_question_20 : decode cL_question 20 = .ok (.ireturn, 1) := by decide +kernel
theorem dL_question_21 : decode cL_question 21 = .ok (.iconst 0, 1) := by decide +kernel
theorem dL_question_22 : decode cL_question 22 = .ok (.ireturn, 1) := by decide +kernel
theorem dL_owner_0 : decode cL_owner 0 = .ok (.aload_n 2, 1) := by decide +kernel
theorem dL_owner_1 : decode cL_owner 1 = .ok (.iconst 0, 1) := by decide +kernel
theorem dL_owner_2 : decode cL_owner 2 = .ok (.aload_n 0, 1) := by decide +kernel
theorem dL_owner_3 : decode cL_owner 3 = .ok (.iload_n 1, 1) := by decide +kernel
theorem dL_owner_4 : decode cL_owner 4 = .ok (.invokevirtual 76, 3) := by decide +kernel
theorem dL_owner_7 : decode cL_owner 7 = .ok (.i2l, 1) := by decide +kernel
theorem dL_owner_8 : decode cL_owner 8 = .ok (.lastore, 1) := by decide +kernel
theorem dL_owner_9 : decode cL_owner 9 = .ok (.goto 6, 3) := by decide +kernel
theorem dL_owner_12 : decode cL_owner 12 = .ok (.astore_n 3, 1) := by decide +kernel
theorem dL_owner_13 : decode cL_owner 13 = .ok (.iconst 1, 1) := by decide +kernel
theorem dL_owner_14 : decode cL_owner 14 = .ok (.ireturn, 1) := by decide +kernel
theorem dL_owner_15 : decode cL_owner 15 = .ok (.iconst 0, 1) := by decide +kernel
theorem dL_owner_16 : decode cL_owner 16 = .ok (.ireturn, 1) := by decide +kernel
theorem dL_law_0 : decode cL_law 0 = .ok (.new 8, 3) := by decide +kernel
theorem dL_law_3 : decode cL_law 3 = .ok (.dup, 1) := by decide +kernel
theorem dL_law_4 : decode cL_law 4 = .ok (.invokespecial 79, 3) := by decide +kernel
theorem dL_law_7 : decode cL_law 7 = .ok (.astore_n 1, 1) := by decide +kernel
theorem dL_law_8 : decode cL_law 8 = .ok (.new 80, 3) := by decide +kernel
theorem dL_law_11 : decode cL_law 11 = .ok (.dup, 1) := by decide +kernel
theorem dL_law_12 : decode cL_law 12 = .ok (.invokespecial 82, 3) := by decide +kernel
theorem dL_law_15 : decode cL_law 15 = .ok (.astore_n 2, 1) := by decide +kernel
theorem dL_law_16 : decode cL_law 16 = .ok (.iconst 1, 1) := by decide +kernel
theorem dL_law_17 : decode cL_law 17 = .ok (.newarray .long, 2) := by decide +kernel
theorem dL_law_19 : decode cL_law 19 = .ok (.astore_n 3, 1) := by decide +kernel
theorem dL_law_20 : decode cL_law 20 = .ok (.iconst 0, 1) := by decide +kernel
theorem dL_law_21 : decode cL_law 21 = .ok (.istore 4, 2) := by decide +kernel
theorem dL_law_23 : decode cL_law 23 = .ok (.iload 4, 2) := by decide +kernel
theorem dL_law_25 : decode cL_law 25 = .ok (.aload_n 0, 1) := by decide +kernel
theorem dL_law_26 : decode cL_law 26 = .ok (.arraylength, 1) := by decide +kernel
theorem dL_law_27 : decode cL_law 27 = .ok (.bipush 7, 2) := by decide +kernel
theorem dL_law_29 : decode cL_law 29 = .ok (.isub, 1) := by decide +kernel
theorem dL_law_30 : decode cL_law 30 = .ok (.if_icmp .gt 1694, 3) := by decide +kernel
theorem dL_law_33 : decode cL_law 33 = .ok (.aload_n 0, 1) := by decide +kernel
theorem dL_law_34 : decode cL_law 34 = .ok (.iload 4, 2) := by decide +kernel
theorem dL_law_36 : decode cL_law 36 = .ok (.iaload, 1) := by decide +kernel
theorem dL_law_37 : decode cL_law 37 = .ok (.bipush 31, 2) := by decide +kernel
theorem dL_law_39 : decode cL_law 39 = .ok (.iand, 1) := by decide +kernel
theorem dL_law_40 : decode cL_law 40 = .ok (.tableswitch 1678 0 26 #[124, 192, 300, 380, 448, 516, 557, 682, 800, 856, 869, 882, 895, 963, 1031, 1099, 1167, 1235, 1303, 1378, 1434, 1502, 1515, 1583, 1596, 1652, 1665], 124) := by decide +kernel
theorem dL_law_164 : decode cL_law 164 = .ok (.aload_n 1, 1) := by decide +kernel
theorem dL_law_165 : decode cL_law 165 = .ok (.aload_n 0, 1) := by decide +kernel
theorem dL_law_166 : decode cL_law 166 = .ok (.iload 4, 2) := by decide +kernel
theorem dL_law_168 : decode cL_law 168 = .ok (.iconst 1, 1) := by decide +kernel
theorem dL_law_169 : decode cL_law 169 = .ok (.iadd, 1) := by decide +kernel
theorem dL_law_170 : decode cL_law 170 = .ok (.iaload, 1) := by decide +kernel
theorem dL_law_171 : decode cL_law 171 = .ok (.aload_n 0, 1) := by decide +kernel
theorem dL_law_172 : decode cL_law 172 = .ok (.iload 4, 2) := by decide +kernel
theorem dL_law_174 : decode cL_law 174 = .ok (.iconst 2, 1) := by decide +kernel
theorem dL_law_175 : decode cL_law 175 = .ok (.iadd, 1) := by decide +kernel
theorem dL_law_176 : decode cL_law 176 = .ok (.iaload, 1) := by decide +kernel
theorem dL_law_177 : decode cL_law 177 = .ok (.aload_n 3, 1) := by decide +kernel
theorem dL_law_178 : decode cL_law 178 = .ok (.invokestatic 83, 3) := by decide +kernel
theorem dL_law_181 : decode cL_law 181 = .ok (.istore 5, 2) := by decide +kernel
theorem dL_law_183 : decode cL_law 183 = .ok (.aload_n 2, 1) := by decide +kernel
theorem dL_law_184 : decode cL_law 184 = .ok (.aload_n 0, 1) := by decide +kernel
theorem dL_law_185 : decode cL_law 185 = .ok (.iload 4, 2) := by decide +kernel
theorem dL_law_187 : decode cL_law 187 = .ok (.iconst 1, 1) := by decide +kernel
theorem dL_law_188 : decode cL_law 188 = .ok (.iadd, 1) := by decide +kernel
theorem dL_law_189 : decode cL_law 189 = .ok (.iaload, 1) := by decide +kernel
theorem dL_law_190 : decode cL_law 190 = .ok (.aload_n 0, 1) := by decide +kernel
theorem dL_law_191 : decode cL_law 191 = .ok (.iload 4, 2) := by decide +kernel
theorem dL_law_193 : decode cL_law 193 = .ok (.iconst 2, 1) := by decide +kernel
theorem dL_law_194 : decode cL_law 194 = .ok (.iadd, 1) := by decide +kernel
theorem dL_law_195 : decode cL_law 195 = .ok (.iaload, 1) := by decide +kernel
theorem dL_law_196 : decode cL_law 196 = .ok (.invokevirtual 88, 3) := by decide +kernel
theorem dL_law_199 : decode cL_law 199 = .ok (.istore 6, 2) := by decide +kernel
theorem dL_law_201 : decode cL_law 201 = .ok (.aload_n 2, 1) := by decide +kernel
theorem dL_law_202 : decode cL_law 202 = .ok (.invokevirtual 89, 3) := by decide +kernel
theorem dL_law_205 : decode cL_law 205 = .ok (.iload 5, 2) := by decide +kernel
theorem dL_law_207 : decode cL_law 207 = .ok (.if_icmp .eq 5, 3) := by decide +kernel
theorem dL_law_210 : decode cL_law 210 = .ok (.iconst 0, 1) := by decide +kernel
theorem dL_law_211 : decode cL_law 211 = .ok (.ireturn, 1) := by decide +kernel
theorem dL_law_212 : decode cL_law 212 = .ok (.iload 5, 2) := by decide +kernel
theorem dL_law_214 : decode cL_law 214 = .ok (.ifCond .ne 15, 3) := by decide +kernel
theorem dL_law_217 : decode cL_law 217 = .ok (.aload_n 3, 1) := by decide +kernel
theorem dL_law_218 : decode cL_law 218 = .ok (.iconst 0, 1) := by decide +kernel
theorem dL_law_219 : decode cL_law 219 = .ok (.laload, 1) := by decide +kernel
theorem dL_law_220 : decode cL_law 220 = .ok (.iload 6, 2) := by decide +kernel
theorem dL_law_222 : decode cL_law 222 = .ok (.i2l, 1) := by decide +kernel
theorem dL_law_223 : decode cL_law 223 = .ok (.lcmp, 1) := by decide +kernel
theorem dL_law_224 : decode cL_law 224 = .ok (.ifCond .eq 5, 3) := by decide +kernel
theorem dL_law_227 : decode cL_law 227 = .ok (.iconst 0, 1) := by decide +kernel
theorem dL_law_228 : decode cL_law 228 = .ok (.ireturn, 1) := by decide +kernel
theorem dL_law_229 : decode cL_law 229 = .ok (.goto 1489, 3) := by decide +kernel
theorem dL_law_232 : decode cL_law 232 = .ok (.aload_n 1, 1) := by decide +kernel
theorem dL_law_233 : decode cL_law 233 = .ok (.aload_n 0, 1) := by decide +kernel
theorem dL_law_234 : decode cL_law 234 = .ok (.iload 4, 2) := by decide +kernel
theorem dL_law_236 : decode cL_law 236 = .ok (.iconst 1, 1) := by decide +kernel
theorem dL_law_237 : decode cL_law 237 = .ok (.iadd, 1) := by decide +kernel
theorem dL_law_238 : decode cL_law 238 = .ok (.iaload, 1) := by decide +kernel
theorem dL_law_239 : decode cL_law 239 = .ok (.aload_n 0, 1) := by decide +kernel
theorem dL_law_240 : decode cL_law 240 = .ok (.iload 4, 2) := by decide +kernel
theorem dL_law_242 : decode cL_law 242 = .ok (.iconst 2, 1) := by decide +kernel
theorem dL_law_243 : decode cL_law 243 = .ok (.iadd, 1) := by decide +kernel
theorem dL_law_244 : decode cL_law 244 = .ok (.iaload, 1) := by decide +kernel
theorem dL_law_245 : decode cL_law 245 = .ok (.aload_n 0, 1) := by decide +kernel
theorem dL_law_246 : decode cL_law 246 = .ok (.iload 4, 2) := by decide +kernel
theorem dL_law_248 : decode cL_law 248 = .ok (.iconst 3, 1) := by decide +kernel
theorem dL_law_249 : decode cL_law 249 = .ok (.iadd, 1) := by decide +kernel
theorem dL_law_250 : decode cL_law 250 = .ok (.iaload, 1) := by decide +kernel
theorem dL_law_251 : decode cL_law 251 = .ok (.aload_n 0, 1) := by decide +kernel
theorem dL_law_252 : decode cL_law 252 = .ok (.iload 4, 2) := by decide +kernel
theorem dL_law_254 : decode cL_law 254 = .ok (.iconst 4, 1) := by decide +kernel
theorem dL_law_255 : decode cL_law 255 = .ok (.iadd, 1) := by decide +kernel
theorem dL_law_256 : decode cL_law 256 = .ok (.iaload, 1) := by decide +kernel
theorem dL_law_257 : decode cL_law 257 = .ok (.ifCond .eq 7, 3) := by decide +kernel
theorem dL_law_260 : decode cL_law 260 = .ok (.iconst 1, 1) := by decide +kernel
theorem dL_law_261 : decode cL_law 261 = .ok (.goto 4, 3) := by decide +kernel
theorem dL_law_264 : decode cL_law 264 = .ok (.iconst 0, 1) := by decide +kernel
theorem dL_law_265 : decode cL_law 265 = .ok (.aload_n 3, 1) := by decide +kernel
theorem dL_law_266 : decode cL_law 266 = .ok (.invokestatic 93, 3) := by decide +kernel
theorem dL_law_269 : decode cL_law 269 = .ok (.istore 5, 2) := by decide +kernel
theorem dL_law_271 : decode cL_law 271 = .ok (.aload_n 2, 1) := by decide +kernel
theorem dL_law_272 : decode cL_law 272 = .ok (.aload_n 0, 1) := by decide +kernel
theorem dL_law_273 : decode cL_law 273 = .ok (.iload 4, 2) := by decide +kernel
theorem dL_law_275 : decode cL_law 275 = .ok (.iconst 1, 1) := by decide +kernel
theorem dL_law_276 : decode cL_law 276 = .ok (.iadd, 1) := by decide +kernel
theorem dL_law_277 : decode cL_law 277 = .ok (.iaload, 1) := by decide +kernel
theorem dL_law_278 : decode cL_law 278 = .ok (.aload_n 0, 1) := by decide +kernel
theorem dL_law_279 : decode cL_law 279 = .ok (.iload 4, 2) := by decide +kernel
theorem dL_law_281 : decode cL_law 281 = .ok (.iconst 2, 1) := by decide +kernel
theorem dL_law_282 : decode cL_law 282 = .ok (.iadd, 1) := by decide +kernel
theorem dL_law_283 : decode cL_law 283 = .ok (.iaload, 1) := by decide +kernel
theorem dL_law_284 : decode cL_law 284 = .ok (.aload_n 0, 1) := by decide +kernel
theorem dL_law_285 : decode cL_law 285 = .ok (.iload 4, 2) := by decide +kernel
theorem dL_law_287 : decode cL_law 287 = .ok (.iconst 3, 1) := by decide +kernel
theorem dL_law_288 : decode cL_law 288 = .ok (.iadd, 1) := by decide +kernel
theorem dL_law_289 : decode cL_law 289 = .ok (.iaload, 1) := by decide +kernel
theorem dL_law_290 : decode cL_law 290 = .ok (.aload_n 0, 1) := by decide +kernel
theorem dL_law_291 : decode cL_law 291 = .ok (.iload 4, 2) := by decide +kernel
theorem dL_law_293 : decode cL_law 293 = .ok (.iconst 4, 1) := by decide +kernel
theorem dL_law_294 : decode cL_law 294 = .ok (.iadd, 1) := by decide +kernel
theorem dL_law_295 : decode cL_law 295 = .ok (.iaload, 1) := by decide +kernel
theorem dL_law_296 : decode cL_law 296 = .ok (.ifCond .eq 7, 3) := by decide +kernel
theorem dL_law_299 : decode cL_law 299 = .ok (.iconst 1, 1) := by decide +kernel
theorem dL_law_300 : decode cL_law 300 = .ok (.goto 4, 3) := by decide +kernel
theorem dL_law_303 : decode cL_law 303 = .ok (.iconst 0, 1) := by decide +kernel
theorem dL_law_304 : decode cL_law 304 = .ok (.invokevirtual 96, 3) := by decide +kernel
theorem dL_law_307 : decode cL_law 307 = .ok (.istore 6, 2) := by decide +kernel
theorem dL_law_309 : decode cL_law 309 = .ok (.aload_n 2, 1) := by decide +kernel
theorem dL_law_310 : decode cL_law 310 = .ok (.invokevirtual 89, 3) := by decide +kernel
theorem dL_law_313 : decode cL_law 313 = .ok (.iload 5, 2) := by decide +kernel
theorem dL_law_315 : decode cL_law 315 = .ok (.if_icmp .eq 5, 3) := by decide +kernel
theorem dL_law_318 : decode cL_law 318 = .ok (.iconst 0, 1) := by decide +kernel
theorem dL_law_319 : decode cL_law 319 = .ok (.ireturn, 1) := by decide +kernel
theorem dL_law_320 : decode cL_law 320 = .ok (.iload 5, 2) := by decide +kernel
theorem dL_law_322 : decode cL_law 322 = .ok (.ifCond .ne 15, 3) := by decide +kernel
theorem dL_law_325 : decode cL_law 325 = .ok (.aload_n 3, 1) := by decide +kernel
theorem dL_law_326 : decode cL_law 326 = .ok (.iconst 0, 1) := by decide +kernel
theorem dL_law_327 : decode cL_law 327 = .ok (.laload, 1) := by decide +kernel
theorem dL_law_328 : decode cL_law 328 = .ok (.iload 6, 2) := by decide +kernel
theorem dL_law_330 : decode cL_law 330 = .ok (.i2l, 1) := by decide +kernel
theorem dL_law_331 : decode cL_law 331 = .ok (.lcmp, 1) := by decide +kernel
theorem dL_law_332 : decode cL_law 332 = .ok (.ifCond .eq 5, 3) := by decide +kernel
theorem dL_law_335 : decode cL_law 335 = .ok (.iconst 0, 1) := by decide +kernel
theorem dL_law_336 : decode cL_law 336 = .ok (.ireturn, 1) := by decide +kernel
theorem dL_law_337 : decode cL_law 337 = .ok (.goto 1381, 3) := by decide +kernel
theorem dL_law_340 : decode cL_law 340 = .ok (.aload_n 1, 1) := by decide +kernel
theorem dL_law_341 : decode cL_law 341 = .ok (.aload_n 0, 1) := by decide +kernel
theorem dL_law_342 : decode cL_law 342 = .ok (.iload 4, 2) := by decide +kernel
theorem dL_law_344 : decode cL_law 344 = .ok (.iconst 1, 1) := by decide +kernel
theorem dL_law_345 : decode cL_law 345 = .ok (.iadd, 1) := by decide +kernel
theorem dL_law_346 : decode cL_law 346 = .ok (.iaload, 1) := by decide +kernel
theorem dL_law_347 : decode cL_law 347 = .ok (.aload_n 0, 1) := by decide +kernel
theorem dL_law_348 : decode cL_law 348 = .ok (.iload 4, 2) := by decide +kernel
theorem dL_law_350 : decode cL_law 350 = .ok (.iconst 2, 1) := by decide +kernel
theorem dL_law_351 : decode cL_law 351 = .ok (.iadd, 1) := by decide +kernel
theorem dL_law_352 : decode cL_law 352 = .ok (.iaload, 1) := by decide +kernel
theorem dL_law_353 : decode cL_law 353 = .ok (.aload_n 0, 1) := by decide +kernel
theorem dL_law_354 : decode cL_law 354 = .ok (.iload 4, 2) := by decide +kernel
theorem dL_law_356 : decode cL_law 356 = .ok (.iconst 3, 1) := by decide +kernel
theorem dL_law_357 : decode cL_law 357 = .ok (.iadd, 1) := by decide +kernel
theorem dL_law_358 : decode cL_law 358 = .ok (.iaload, 1) := by decide +kernel
theorem dL_law_359 : decode cL_law 359 = .ok (.aload_n 3, 1) := by decide +kernel
theorem dL_law_360 : decode cL_law 360 = .ok (.invokestatic 97, 3) := by decide +kernel
theorem dL_law_363 : decode cL_law 363 = .ok (.istore 5, 2) := by decide +kernel
theorem dL_law_365 : decode cL_law 365 = .ok (.aload_n 2, 1) := by decide +kernel
theorem dL_law_366 : decode cL_law 366 = .ok (.aload_n 0, 1) := by decide +kernel
theorem dL_law_367 : decode cL_law 367 = .ok (.iload 4, 2) := by decide +kernel
theorem dL_law_369 : decode cL_law 369 = .ok (.iconst 1, 1) := by decide +kernel
theorem dL_law_370 : decode cL_law 370 = .ok (.iadd, 1) := by decide +kernel
theorem dL_law_371 : decode cL_law 371 = .ok (.iaload, 1) := by decide +kernel
theorem dL_law_372 : decode cL_law 372 = .ok (.aload_n 0, 1) := by decide +kernel
theorem dL_law_373 : decode cL_law 373 = .ok (.iload 4, 2) := by decide +kernel
theorem dL_law_375 : decode cL_law 375 = .ok (.iconst 2, 1) := by decide +kernel
theorem dL_law_376 : decode cL_law 376 = .ok (.iadd, 1) := by decide +kernel
theorem dL_law_377 : decode cL_law 377 = .ok (.iaload, 1) := by decide +kernel
theorem dL_law_378 : decode cL_law 378 = .ok (.aload_n 0, 1) := by decide +kernel
theorem dL_law_379 : decode cL_law 379 = .ok (.iload 4, 2) := by decide +kernel
theorem dL_law_381 : decode cL_law 381 = .ok (.iconst 3, 1) := by decide +kernel
theorem dL_law_382 : decode cL_law 382 = .ok (.iadd, 1) := by decide +kernel
theorem dL_law_383 : decode cL_law 383 = .ok (.iaload, 1) := by decide +kernel
theorem dL_law_384 : decode cL_law 384 = .ok (.invokevirtual 100, 3) := by decide +kernel
theorem dL_law_387 : decode cL_law 387 = .ok (.istore 6, 2) := by decide +kernel
theorem dL_law_389 : decode cL_law 389 = .ok (.aload_n 2, 1) := by decide +kernel
theorem dL_law_390 : decode cL_law 390 = .ok (.invokevirtual 89, 3) := by decide +kernel
theorem dL_law_393 : decode cL_law 393 = .ok (.iload 5, 2) := by decide +kernel
theorem dL_law_395 : decode cL_law 395 = .ok (.if_icmp .eq 5, 3) := by decide +kernel
theorem dL_law_398 : decode cL_law 398 = .ok (.iconst 0, 1) := by decide +kernel
theorem dL_law_399 : decode cL_law 399 = .ok (.ireturn, 1) := by decide +kernel
theorem dL_law_400 : decode cL_law 400 = .ok (.iload 5, 2) := by decide +kernel
theorem dL_law_402 : decode cL_law 402 = .ok (.ifCond .ne 15, 3) := by decide +kernel
theorem dL_law_405 : decode cL_law 405 = .ok (.aload_n 3, 1) := by decide +kernel
theorem dL_law_406 : decode cL_law 406 = .ok (.iconst 0, 1) := by decide +kernel
theorem dL_law_407 : decode cL_law 407 = .ok (.laload, 1) := by decide +kernel
theorem dL_law_408 : decode cL_law 408 = .ok (.iload 6, 2) := by decide +kernel
theorem dL_law_410 : decode cL_law 410 = .ok (.i2l, 1) := by decide +kernel
theorem dL_law_411 : decode cL_law 411 = .ok (.lcmp, 1) := by decide +kernel
theorem dL_law_412 : decode cL_law 412 = .ok (.ifCond .eq 5, 3) := by decide +kernel
theorem dL_law_415 : decode cL_law 415 = .ok (.iconst 0, 1) := by decide +kernel
theorem dL_law_416 : decode cL_law 416 = .ok (.ireturn, 1) := by decide +kernel
theorem dL_law_417 : decode cL_law 417 = .ok (.goto 1301, 3) := by decide +kernel
theorem dL_law_420 : decode cL_law 420 = .ok (.aload_n 1, 1) := by decide +kernel
theorem dL_law_421 : decode cL_law 421 = .ok (.aload_n 0, 1) := by decide +kernel
theorem dL_law_422 : decode cL_law 422 = .ok (.iload 4, 2) := by decide +kernel
theorem dL_law_424 : decode cL_law 424 = .ok (.iconst 1, 1) := by decide +kernel
theorem dL_law_425 : decode cL_law 425 = .ok (.iadd, 1) := by decide +kernel
theorem dL_law_426 : decode cL_law 426 = .ok (.iaload, 1) := by decide +kernel
theorem dL_law_427 : decode cL_law 427 = .ok (.aload_n 0, 1) := by decide +kernel
theorem dL_law_428 : decode cL_law 428 = .ok (.iload 4, 2) := by decide +kernel
theorem dL_law_430 : decode cL_law 430 = .ok (.iconst 2, 1) := by decide +kernel
theorem dL_law_431 : decode cL_law 431 = .ok (.iadd, 1) := by decide +kernel
theorem dL_law_432 : decode cL_law 432 = .ok (.iaload, 1) := by decide +kernel
theorem dL_law_433 : decode cL_law 433 = .ok (.aload_n 3, 1) := by decide +kernel
theorem dL_law_434 : decode cL_law 434 = .ok (.invokestatic 101, 3) := by decide +kernel
theorem dL_law_437 : decode cL_law 437 = .ok (.istore 5, 2) := by decide +kernel
theorem dL_law_439 : decode cL_law 439 = .ok (.aload_n 2, 1) := by decide +kernel
theorem dL_law_440 : decode cL_law 440 = .ok (.aload_n 0, 1) := by decide +kernel
theorem dL_law_441 : decode cL_law 441 = .ok (.iload 4, 2) := by decide +kernel
theorem dL_law_443 : decode cL_law 443 = .ok (.iconst 1, 1) := by decide +kernel
theorem dL_law_444 : decode cL_law 444 = .ok (.iadd, 1) := by decide +kernel
theorem dL_law_445 : decode cL_law 445 = .ok (.iaload, 1) := by decide +kernel
theorem dL_law_446 : decode cL_law 446 = .ok (.aload_n 0, 1) := by decide +kernel
theorem dL_law_447 : decode cL_law 447 = .ok (.iload 4, 2) := by decide +kernel
theorem dL_law_449 : decode cL_law 449 = .ok (.iconst 2, 1) := by decide +kernel
theorem dL_law_450 : decode cL_law 450 = .ok (.iadd, 1) := by decide +kernel
theorem dL_law_451 : decode cL_law 451 = .ok (.iaload, 1) := by decide +kernel
theorem dL_law_452 : decode cL_law 452 = .ok (.invokevirtual 103, 3) := by decide +kernel
theorem dL_law_455 : decode cL_law 455 = .ok (.istore 6, 2) := by decide +kernel
theorem dL_law_457 : decode cL_law 457 = .ok (.aload_n 2, 1) := by decide +kernel
theorem dL_law_458 : decode cL_law 458 = .ok (.invokevirtual 89, 3) := by decide +kernel
theorem dL_law_461 : decode cL_law 461 = .ok (.iload 5, 2) := by decide +kernel
theorem dL_law_463 : decode cL_law 463 = .ok (.if_icmp .eq 5, 3) := by decide +kernel
theorem dL_law_466 : decode cL_law 466 = .ok (.iconst 0, 1) := by decide +kernel
theorem dL_law_467 : decode cL_law 467 = .ok (.ireturn, 1) := by decide +kernel
theorem dL_law_468 : decode cL_law 468 = .ok (.iload 5, 2) := by decide +kernel
theorem dL_law_470 : decode cL_law 470 = .ok (.ifCond .ne 15, 3) := by decide +kernel
theorem dL_law_473 : decode cL_law 473 = .ok (.aload_n 3, 1) := by decide +kernel
theorem dL_law_474 : decode cL_law 474 = .ok (.iconst 0, 1) := by decide +kernel
theorem dL_law_475 : decode cL_law 475 = .ok (.laload, 1) := by decide +kernel
theorem dL_law_476 : decode cL_law 476 = .ok (.iload 6, 2) := by decide +kernel
theorem dL_law_478 : decode cL_law 478 = .ok (.i2l, 1) := by decide +kernel
theorem dL_law_479 : decode cL_law 479 = .ok (.lcmp, 1) := by decide +kernel
theorem dL_law_480 : decode cL_law 480 = .ok (.ifCond .eq 5, 3) := by decide +kernel
theorem dL_law_483 : decode cL_law 483 = .ok (.iconst 0, 1) := by decide +kernel
theorem dL_law_484 : decode cL_law 484 = .ok (.ireturn, 1) := by decide +kernel
theorem dL_law_485 : decode cL_law 485 = .ok (.goto 1233, 3) := by decide +kernel
theorem dL_law_488 : decode cL_law 488 = .ok (.aload_n 1, 1) := by decide +kernel
theorem dL_law_489 : decode cL_law 489 = .ok (.aload_n 0, 1) := by decide +kernel
theorem dL_law_490 : decode cL_law 490 = .ok (.iload 4, 2) := by decide +kernel
theorem dL_law_492 : decode cL_law 492 = .ok (.iconst 1, 1) := by decide +kernel
theorem dL_law_493 : decode cL_law 493 = .ok (.iadd, 1) := by decide +kernel
theorem dL_law_494 : decode cL_law 494 = .ok (.iaload, 1) := by decide +kernel
theorem dL_law_495 : decode cL_law 495 = .ok (.aload_n 0, 1) := by decide +kernel
theorem dL_law_496 : decode cL_law 496 = .ok (.iload 4, 2) := by decide +kernel
theorem dL_law_498 : decode cL_law 498 = .ok (.iconst 2, 1) := by decide +kernel
theorem dL_law_499 : decode cL_law 499 = .ok (.iadd, 1) := by decide +kernel
theorem dL_law_500 : decode cL_law 500 = .ok (.iaload, 1) := by decide +kernel
theorem dL_law_501 : decode cL_law 501 = .ok (.aload_n 3, 1) := by decide +kernel
theorem dL_law_502 : decode cL_law 502 = .ok (.invokestatic 104, 3) := by decide +kernel
theorem dL_law_505 : decode cL_law 505 = .ok (.istore 5, 2) := by decide +kernel
theorem dL_law_507 : decode cL_law 507 = .ok (.aload_n 2, 1) := by decide +kernel
theorem dL_law_508 : decode cL_law 508 = .ok (.aload_n 0, 1) := by decide +kernel
theorem dL_law_509 : decode cL_law 509 = .ok (.iload 4, 2) := by decide +kernel
theorem dL_law_511 : decode cL_law 511 = .ok (.iconst 1, 1) := by decide +kernel
theorem dL_law_512 : decode cL_law 512 = .ok (.iadd, 1) := by decide +kernel
theorem dL_law_513 : decode cL_law 513 = .ok (.iaload, 1) := by decide +kernel
theorem dL_law_514 : decode cL_law 514 = .ok (.aload_n 0, 1) := by decide +kernel
theorem dL_law_515 : decode cL_law 515 = .ok (.iload 4, 2) := by decide +kernel
theorem dL_law_517 : decode cL_law 517 = .ok (.iconst 2, 1) := by decide +kernel
theorem dL_law_518 : decode cL_law 518 = .ok (.iadd, 1) := by decide +kernel
theorem dL_law_519 : decode cL_law 519 = .ok (.iaload, 1) := by decide +kernel
theorem dL_law_520 : decode cL_law 520 = .ok (.invokevirtual 106, 3) := by decide +kernel
theorem dL_law_523 : decode cL_law 523 = .ok (.istore 6, 2) := by decide +kernel
theorem dL_law_525 : decode cL_law 525 = .ok (.aload_n 2, 1) := by decide +kernel
theorem dL_law_526 : decode cL_law 526 = .ok (.invokevirtual 89, 3) := by decide +kernel
theorem dL_law_529 : decode cL_law 529 = .ok (.iload 5, 2) := by decide +kernel
theorem dL_law_531 : decode cL_law 531 = .ok (.if_icmp .eq 5, 3) := by decide +kernel
theorem dL_law_534 : decode cL_law 534 = .ok (.iconst 0, 1) := by decide +kernel
theorem dL_law_535 : decode cL_law 535 = .ok (.ireturn, 1) := by decide +kernel
theorem dL_law_536 : decode cL_law 536 = .ok (.iload 5, 2) := by decide +kernel
theorem dL_law_538 : decode cL_law 538 = .ok (.ifCond .ne 15, 3) := by decide +kernel
theorem dL_law_541 : decode cL_law 541 = .ok (.aload_n 3, 1) := by decide +kernel
theorem dL_law_542 : decode cL_law 542 = .ok (.iconst 0, 1) := by decide +kernel
theorem dL_law_543 : decode cL_law 543 = .ok (.laload, 1) := by decide +kernel
theorem dL_law_544 : decode cL_law 544 = .ok (.iload 6, 2) := by decide +kernel
theorem dL_law_546 : decode cL_law 546 = .ok (.i2l, 1) := by decide +kernel
theorem dL_law_547 : decode cL_law 547 = .ok (.lcmp, 1) := by decide +kernel
theorem dL_law_548 : decode cL_law 548 = .ok (.ifCond .eq 5, 3) := by decide +kernel
theorem dL_law_551 : decode cL_law 551 = .ok (.iconst 0, 1) := by decide +kernel
theorem dL_law_552 : decode cL_law 552 = .ok (.ireturn, 1) := by decide +kernel
theorem dL_law_553 : decode cL_law 553 = .ok (.goto 1165, 3) := by decide +kernel
theorem dL_law_556 : decode cL_law 556 = .ok (.aload_n 1, 1) := by decide +kernel
theorem dL_law_557 : decode cL_law 557 = .ok (.aload_n 0, 1) := by decide +kernel
theorem dL_law_558 : decode cL_law 558 = .ok (.iload 4, 2) := by decide +kernel
theorem dL_law_560 : decode cL_law 560 = .ok (.iconst 1, 1) := by decide +kernel
theorem dL_law_561 : decode cL_law 561 = .ok (.iadd, 1) := by decide +kernel
theorem dL_law_562 : decode cL_law 562 = .ok (.iaload, 1) := by decide +kernel
theorem dL_law_563 : decode cL_law 563 = .ok (.ifCond .eq 7, 3) := by decide +kernel
theorem dL_law_566 : decode cL_law 566 = .ok (.iconst 1, 1) := by decide +kernel
theorem dL_law_567 : decode cL_law 567 = .ok (.goto 4, 3) := by decide +kernel
theorem dL_law_570 : decode cL_law 570 = .ok (.iconst 0, 1) := by decide +kernel
theorem dL_law_571 : decode cL_law 571 = .ok (.invokevirtual 107, 3) := by decide +kernel
theorem dL_law_574 : decode cL_law 574 = .ok (.aload_n 2, 1) := by decide +kernel
theorem dL_law_575 : decode cL_law 575 = .ok (.aload_n 0, 1) := by decide +kernel
theorem dL_law_576 : decode cL_law 576 = .ok (.iload 4, 2) := by decide +kernel
theorem dL_law_578 : decode cL_law 578 = .ok (.iconst 1, 1) := by decide +kernel
theorem dL_law_579 : decode cL_law 579 = .ok (.iadd, 1) := by decide +kernel
theorem dL_law_580 : decode cL_law 580 = .ok (.iaload, 1) := by decide +kernel
theorem dL_law_581 : decode cL_law 581 = .ok (.ifCond .eq 7, 3) := by decide +kernel
theorem dL_law_584 : decode cL_law 584 = .ok (.iconst 1, 1) := by decide +kernel
theorem dL_law_585 : decode cL_law 585 = .ok (.goto 4, 3) := by decide +kernel
theorem dL_law_588 : decode cL_law 588 = .ok (.iconst 0, 1) := by decide +kernel
theorem dL_law_589 : decode cL_law 589 = .ok (.invokevirtual 111, 3) := by decide +kernel
theorem dL_law_592 : decode cL_law 592 = .ok (.if_icmp .eq 1126, 3) := by decide +kernel
theorem dL_law_595 : decode cL_law 595 = .ok (.iconst 0, 1) := by decide +kernel
theorem dL_law_596 : decode cL_law 596 = .ok (.ireturn, 1) := by decide +kernel
theorem dL_law_597 : decode cL_law 597 = .ok (.aload_n 1, 1) := by decide +kernel
theorem dL_law_598 : decode cL_law 598 = .ok (.aload_n 0, 1) := by decide +kernel
theorem dL_law_599 : decode cL_law 599 = .ok (.iload 4, 2) := by decide +kernel
theorem dL_law_601 : decode cL_law 601 = .ok (.iconst 1, 1) := by decide +kernel
theorem dL_law_602 : decode cL_law 602 = .ok (.iadd, 1) := by decide +kernel
theorem dL_law_603 : decode cL_law 603 = .ok (.iaload, 1) := by decide +kernel
theorem dL_law_604 : decode cL_law 604 = .ok (.aload_n 0, 1) := by decide +kernel
theorem dL_law_605 : decode cL_law 605 = .ok (.iload 4, 2) := by decide +kernel
theorem dL_law_607 : decode cL_law 607 = .ok (.iconst 2, 1) := by decide +kernel
theorem dL_law_608 : decode cL_law 608 = .ok (.iadd, 1) := by decide +kernel
theorem dL_law_609 : decode cL_law 609 = .ok (.iaload, 1) := by decide +kernel
theorem dL_law_610 : decode cL_law 610 = .ok (.aload_n 0, 1) := by decide +kernel
theorem dL_law_611 : decode cL_law 611 = .ok (.iload 4, 2) := by decide +kernel
theorem dL_law_613 : decode cL_law 613 = .ok (.iconst 3, 1) := by decide +kernel
theorem dL_law_614 : decode cL_law 614 = .ok (.iadd, 1) := by decide +kernel
theorem dL_law_615 : decode cL_law 615 = .ok (.iaload, 1) := by decide +kernel
theorem dL_law_616 : decode cL_law 616 = .ok (.aload_n 0, 1) := by decide +kernel
theorem dL_law_617 : decode cL_law 617 = .ok (.iload 4, 2) := by decide +kernel
theorem dL_law_619 : decode cL_law 619 = .ok (.iconst 4, 1) := by decide +kernel
theorem dL_law_620 : decode cL_law 620 = .ok (.iadd, 1) := by decide +kernel
theorem dL_law_621 : decode cL_law 621 = .ok (.iaload, 1) := by decide +kernel
theorem dL_law_622 : decode cL_law 622 = .ok (.aload_n 0, 1) := by decide +kernel
theorem dL_law_623 : decode cL_law 623 = .ok (.iload 4, 2) := by decide +kernel
theorem dL_law_625 : decode cL_law 625 = .ok (.iconst 5, 1) := by decide +kernel
theorem dL_law_626 : decode cL_law 626 = .ok (.iadd, 1) := by decide +kernel
theorem dL_law_627 : decode cL_law 627 = .ok (.iaload, 1) := by decide +kernel
theorem dL_law_628 : decode cL_law 628 = .ok (.aload_n 0, 1) := by decide +kernel
theorem dL_law_629 : decode cL_law 629 = .ok (.iload 4, 2) := by decide +kernel
theorem dL_law_631 : decode cL_law 631 = .ok (.bipush 6, 2) := by decide +kernel
theorem dL_law_633 : decode cL_law 633 = .ok (.iadd, 1) := by decide +kernel
theorem dL_law_634 : decode cL_law 634 = .ok (.iaload, 1) := by decide +kernel
theorem dL_law_635 : decode cL_law 635 = .ok (.aload_n 3, 1) := by decide +kernel
theorem dL_law_636 : decode cL_law 636 = .ok (.invokestatic 112, 3) := by decide +kernel
theorem dL_law_639 : decode cL_law 639 = .ok (.istore 5, 2) := by decide +kernel
theorem dL_law_641 : decode cL_law 641 = .ok (.aload_n 2, 1) := by decide +kernel
theorem dL_law_642 : decode cL_law 642 = .ok (.aload_n 0, 1) := by decide +kernel
theorem dL_law_643 : decode cL_law 643 = .ok (.iload 4, 2) := by decide +kernel
theorem dL_law_645 : decode cL_law 645 = .ok (.iconst 1, 1) := by decide +kernel
theorem dL_law_646 : decode cL_law 646 = .ok (.iadd, 1) := by decide +kernel
theorem dL_law_647 : decode cL_law 647 = .ok (.iaload, 1) := by decide +kernel
theorem dL_law_648 : decode cL_law 648 = .ok (.aload_n 0, 1) := by decide +kernel
theorem dL_law_649 : decode cL_law 649 = .ok (.iload 4, 2) := by decide +kernel
theorem dL_law_651 : decode cL_law 651 = .ok (.iconst 2, 1) := by decide +kernel
theorem dL_law_652 : decode cL_law 652 = .ok (.iadd, 1) := by decide +kernel
theorem dL_law_653 : decode cL_law 653 = .ok (.iaload, 1) := by decide +kernel
theorem dL_law_654 : decode cL_law 654 = .ok (.aload_n 0, 1) := by decide +kernel
theorem dL_law_655 : decode cL_law 655 = .ok (.iload 4, 2) := by decide +kernel
theorem dL_law_657 : decode cL_law 657 = .ok (.iconst 3, 1) := by decide +kernel
theorem dL_law_658 : decode cL_law 658 = .ok (.iadd, 1) := by decide +kernel
theorem dL_law_659 : decode cL_law 659 = .ok (.iaload, 1) := by decide +kernel
theorem dL_law_660 : decode cL_law 660 = .ok (.aload_n 0, 1) := by decide +kernel
theorem dL_law_661 : decode cL_law 661 = .ok (.iload 4, 2) := by decide +kernel
theorem dL_law_663 : decode cL_law 663 = .ok (.iconst 4, 1) := by decide +kernel
theorem dL_law_664 : decode cL_law 664 = .ok (.iadd, 1) := by decide +kernel
theorem dL_law_665 : decode cL_law 665 = .ok (.iaload, 1) := by decide +kernel
theorem dL_law_666 : decode cL_law 666 = .ok (.aload_n 0, 1) := by decide +kernel
theorem dL_law_667 : decode cL_law 667 = .ok (.iload 4, 2) := by decide +kernel
theorem dL_law_669 : decode cL_law 669 = .ok (.iconst 5, 1) := by decide +kernel
theorem dL_law_670 : decode cL_law 670 = .ok (.iadd, 1) := by decide +kernel
theorem dL_law_671 : decode cL_law 671 = .ok (.iaload, 1) := by decide +kernel
theorem dL_law_672 : decode cL_law 672 = .ok (.aload_n 0, 1) := by decide +kernel
theorem dL_law_673 : decode cL_law 673 = .ok (.iload 4, 2) := by decide +kernel
theorem dL_law_675 : decode cL_law 675 = .ok (.bipush 6, 2) := by decide +kernel
theorem dL_law_677 : decode cL_law 677 = .ok (.iadd, 1) := by decide +kernel
theorem dL_law_678 : decode cL_law 678 = .ok (.iaload, 1) := by decide +kernel
theorem dL_law_679 : decode cL_law 679 = .ok (.invokevirtual 115, 3) := by decide +kernel
theorem dL_law_682 : decode cL_law 682 = .ok (.istore 6, 2) := by decide +kernel
theorem dL_law_684 : decode cL_law 684 = .ok (.aload_n 2, 1) := by decide +kernel
theorem dL_law_685 : decode cL_law 685 = .ok (.invokevirtual 89, 3) := by decide +kernel
theorem dL_law_688 : decode cL_law 688 = .ok (.iload 5, 2) := by decide +kernel
theorem dL_law_690 : decode cL_law 690 = .ok (.if_icmp .eq 5, 3) := by decide +kernel
theorem dL_law_693 : decode cL_law 693 = .ok (.iconst 0, 1) := by decide +kernel
theorem dL_law_694 : decode cL_law 694 = .ok (.ireturn, 1) := by decide +kernel
theorem dL_law_695 : decode cL_law 695 = .ok (.iload 5, 2) := by decide +kernel
theorem dL_law_697 : decode cL_law 697 = .ok (.ifCond .ne 22, 3) := by decide +kernel
theorem dL_law_700 : decode cL_law 700 = .ok (.aload_n 3, 1) := by decide +kernel
theorem dL_law_701 : decode cL_law 701 = .ok (.iconst 0, 1) := by decide +kernel
theorem dL_law_702 : decode cL_law 702 = .ok (.laload, 1) := by decide +kernel
theorem dL_law_703 : decode cL_law 703 = .ok (.iload 6, 2) := by decide +kernel
theorem dL_law_705 : decode cL_law 705 = .ok (.ifCond .eq 7, 3) := by decide +kernel
theorem dL_law_708 : decode cL_law 708 = .ok (.lconst 1, 1) := by decide +kernel
theorem dL_law_709 : decode cL_law 709 = .ok (.goto 4, 3) := by decide +kernel
theorem dL_law_712 : decode cL_law 712 = .ok (.lconst 0, 1) := by decide +kernel
theorem dL_law_713 : decode cL_law 713 = .ok (.lcmp, 1) := by decide +kernel
theorem dL_law_714 : decode cL_law 714 = .ok (.ifCond .eq 5, 3) := by decide +kernel
theorem dL_law_717 : decode cL_law 717 = .ok (.iconst 0, 1) := by decide +kernel
theorem dL_law_718 : decode cL_law 718 = .ok (.ireturn, 1) := by decide +kernel
theorem dL_law_719 : decode cL_law 719 = .ok (.goto 999, 3) := by decide +kernel
theorem dL_law_722 : decode cL_law 722 = .ok (.aload_n 1, 1) := by decide +kernel
theorem dL_law_723 : decode cL_law 723 = .ok (.aload_n 0, 1) := by decide +kernel
theorem dL_law_724 : decode cL_law 724 = .ok (.iload 4, 2) := by decide +kernel
theorem dL_law_726 : decode cL_law 726 = .ok (.iconst 1, 1) := by decide +kernel
theorem dL_law_727 : decode cL_law 727 = .ok (.iadd, 1) := by decide +kernel
theorem dL_law_728 : decode cL_law 728 = .ok (.iaload, 1) := by decide +kernel
theorem dL_law_729 : decode cL_law 729 = .ok (.aload_n 0, 1) := by decide +kernel
theorem dL_law_730 : decode cL_law 730 = .ok (.iload 4, 2) := by decide +kernel
theorem dL_law_732 : decode cL_law 732 = .ok (.iconst 2, 1) := by decide +kernel
theorem dL_law_733 : decode cL_law 733 = .ok (.iadd, 1) := by decide +kernel
theorem dL_law_734 : decode cL_law 734 = .ok (.iaload, 1) := by decide +kernel
theorem dL_law_735 : decode cL_law 735 = .ok (.aload_n 0, 1) := by decide +kernel
theorem dL_law_736 : decode cL_law 736 = .ok (.iload 4, 2) := by decide +kernel
theorem dL_law_738 : decode cL_law 738 = .ok (.iconst 3, 1) := by decide +kernel
theorem dL_law_739 : decode cL_law 739 = .ok (.iadd, 1) := by decide +kernel
theorem dL_law_740 : decode cL_law 740 = .ok (.iaload, 1) := by decide +kernel
theorem dL_law_741 : decode cL_law 741 = .ok (.aload_n 0, 1) := by decide +kernel
theorem dL_law_742 : decode cL_law 742 = .ok (.iload 4, 2) := by decide +kernel
theorem dL_law_744 : decode cL_law 744 = .ok (.iconst 4, 1) := by decide +kernel
theorem dL_law_745 : decode cL_law 745 = .ok (.iadd, 1) := by decide +kernel
theorem dL_law_746 : decode cL_law 746 = .ok (.iaload, 1) := by decide +kernel
theorem dL_law_747 : decode cL_law 747 = .ok (.aload_n 0, 1) := by decide +kernel
theorem dL_law_748 : decode cL_law 748 = .ok (.iload 4, 2) := by decide +kernel
theorem dL_law_750 : decode cL_law 750 = .ok (.iconst 5, 1) := by decide +kernel
theorem dL_law_751 : decode cL_law 751 = .ok (.iadd, 1) := by decide +kernel
theorem dL_law_752 : decode cL_law 752 = .ok (.iaload, 1) := by decide +kernel
theorem dL_law_753 : decode cL_law 753 = .ok (.aload_n 0, 1) := by decide +kernel
theorem dL_law_754 : decode cL_law 754 = .ok (.iload 4, 2) := by decide +kernel
theorem dL_law_756 : decode cL_law 756 = .ok (.bipush 6, 2) := by decide +kernel
theorem dL_law_758 : decode cL_law 758 = .ok (.iadd, 1) := by decide +kernel
theorem dL_law_759 : decode cL_law 759 = .ok (.iaload, 1) := by decide +kernel
theorem dL_law_760 : decode cL_law 760 = .ok (.aload_n 3, 1) := by decide +kernel
theorem dL_law_761 : decode cL_law 761 = .ok (.invokestatic 116, 3) := by decide +kernel
theorem dL_law_764 : decode cL_law 764 = .ok (.istore 5, 2) := by decide +kernel
theorem dL_law_766 : decode cL_law 766 = .ok (.aload_n 2, 1) := by decide +kernel
theorem dL_law_767 : decode cL_law 767 = .ok (.aload_n 0, 1) := by decide +kernel
theorem dL_law_768 : decode cL_law 768 = .ok (.iload 4, 2) := by decide +kernel
theorem dL_law_770 : decode cL_law 770 = .ok (.iconst 1, 1) := by decide +kernel
theorem dL_law_771 : decode cL_law 771 = .ok (.iadd, 1) := by decide +kernel
theorem dL_law_772 : decode cL_law 772 = .ok (.iaload, 1) := by decide +kernel
theorem dL_law_773 : decode cL_law 773 = .ok (.aload_n 0, 1) := by decide +kernel
theorem dL_law_774 : decode cL_law 774 = .ok (.iload 4, 2) := by decide +kernel
theorem dL_law_776 : decode cL_law 776 = .ok (.iconst 2, 1) := by decide +kernel
theorem dL_law_777 : decode cL_law 777 = .ok (.iadd, 1) := by decide +kernel
theorem dL_law_778 : decode cL_law 778 = .ok (.iaload, 1) := by decide +kernel
theorem dL_law_779 : decode cL_law 779 = .ok (.aload_n 0, 1) := by decide +kernel
theorem dL_law_780 : decode cL_law 780 = .ok (.iload 4, 2) := by decide +kernel
theorem dL_law_782 : decode cL_law 782 = .ok (.iconst 3, 1) := by decide +kernel
theorem dL_law_783 : decode cL_law 783 = .ok (.iadd, 1) := by decide +kernel
theorem dL_law_784 : decode cL_law 784 = .ok (.iaload, 1) := by decide +kernel
theorem dL_law_785 : decode cL_law 785 = .ok (.aload_n 0, 1) := by decide +kernel
theorem dL_law_786 : decode cL_law 786 = .ok (.iload 4, 2) := by decide +kernel
theorem dL_law_788 : decode cL_law 788 = .ok (.iconst 4, 1) := by decide +kernel
theorem dL_law_789 : decode cL_law 789 = .ok (.iadd, 1) := by decide +kernel
theorem dL_law_790 : decode cL_law 790 = .ok (.iaload, 1) := by decide +kernel
theorem dL_law_791 : decode cL_law 791 = .ok (.aload_n 0, 1) := by decide +kernel
theorem dL_law_792 : decode cL_law 792 = .ok (.iload 4, 2) := by decide +kernel
theorem dL_law_794 : decode cL_law 794 = .ok (.iconst 5, 1) := by decide +kernel
theorem dL_law_795 : decode cL_law 795 = .ok (.iadd, 1) := by decide +kernel
theorem dL_law_796 : decode cL_law 796 = .ok (.iaload, 1) := by decide +kernel
theorem dL_law_797 : decode cL_law 797 = .ok (.aload_n 0, 1) := by decide +kernel
theorem dL_law_798 : decode cL_law 798 = .ok (.iload 4, 2) := by decide +kernel
theorem dL_law_800 : decode cL_law 800 = .ok (.bipush 6, 2) := by decide +kernel
theorem dL_law_802 : decode cL_law 802 = .ok (.iadd, 1) := by decide +kernel
theorem dL_law_803 : decode cL_law 803 = .ok (.iaload, 1) := by decide +kernel
theorem dL_law_804 : decode cL_law 804 = .ok (.invokevirtual 118, 3) := by decide +kernel
theorem dL_law_807 : decode cL_law 807 = .ok (.istore 6, 2) := by decide +kernel
theorem dL_law_809 : decode cL_law 809 = .ok (.aload_n 2, 1) := by decide +kernel
theorem dL_law_810 : decode cL_law 810 = .ok (.invokevirtual 89, 3) := by decide +kernel
theorem dL_law_813 : decode cL_law 813 = .ok (.iload 5, 2) := by decide +kernel
theorem dL_law_815 : decode cL_law 815 = .ok (.if_icmp .eq 5, 3) := by decide +kernel
theorem dL_law_818 : decode cL_law 818 = .ok (.iconst 0, 1) := by decide +kernel
theorem dL_law_819 : decode cL_law 819 = .ok (.ireturn, 1) := by decide +kernel
theorem dL_law_820 : decode cL_law 820 = .ok (.iload 5, 2) := by decide +kernel
theorem dL_law_822 : decode cL_law 822 = .ok (.ifCond .ne 15, 3) := by decide +kernel
theorem dL_law_825 : decode cL_law 825 = .ok (.aload_n 3, 1) := by decide +kernel
theorem dL_law_826 : decode cL_law 826 = .ok (.iconst 0, 1) := by decide +kernel
theorem dL_law_827 : decode cL_law 827 = .ok (.laload, 1) := by decide +kernel
theorem dL_law_828 : decode cL_law 828 = .ok (.iload 6, 2) := by decide +kernel
theorem dL_law_830 : decode cL_law 830 = .ok (.i2l, 1) := by decide +kernel
theorem dL_law_831 : decode cL_law 831 = .ok (.lcmp, 1) := by decide +kernel
theorem dL_law_832 : decode cL_law 832 = .ok (.ifCond .eq 5, 3) := by decide +kernel
theorem dL_law_835 : decode cL_law 835 = .ok (.iconst 0, 1) := by decide +kernel
theorem dL_law_836 : decode cL_law 836 = .ok (.ireturn, 1) := by decide +kernel
theorem dL_law_837 : decode cL_law 837 = .ok (.goto 881, 3) := by decide +kernel
theorem dL_law_840 : decode cL_law 840 = .ok (.aload_n 1, 1) := by decide +kernel
theorem dL_law_841 : decode cL_law 841 = .ok (.aload_n 0, 1) := by decide +kernel
theorem dL_law_842 : decode cL_law 842 = .ok (.iload 4, 2) := by decide +kernel
theorem dL_law_844 : decode cL_law 844 = .ok (.iconst 1, 1) := by decide +kernel
theorem dL_law_845 : decode cL_law 845 = .ok (.iadd, 1) := by decide +kernel
theorem dL_law_846 : decode cL_law 846 = .ok (.iaload, 1) := by decide +kernel
theorem dL_law_847 : decode cL_law 847 = .ok (.aload_n 3, 1) := by decide +kernel
theorem dL_law_848 : decode cL_law 848 = .ok (.invokestatic 119, 3) := by decide +kernel
theorem dL_law_851 : decode cL_law 851 = .ok (.istore 5, 2) := by decide +kernel
theorem dL_law_853 : decode cL_law 853 = .ok (.aload_n 2, 1) := by decide +kernel
theorem dL_law_854 : decode cL_law 854 = .ok (.aload_n 0, 1) := by decide +kernel
theorem dL_law_855 : decode cL_law 855 = .ok (.iload 4, 2) := by decide +kernel
theorem dL_law_857 : decode cL_law 857 = .ok (.iconst 1, 1) := by decide +kernel
theorem dL_law_858 : decode cL_law 858 = .ok (.iadd, 1) := by decide +kernel
theorem dL_law_859 : decode cL_law 859 = .ok (.iaload, 1) := by decide +kernel
theorem dL_law_860 : decode cL_law 860 = .ok (.invokevirtual 122, 3) := by decide +kernel
theorem dL_law_863 : decode cL_law 863 = .ok (.istore 6, 2) := by decide +kernel
theorem dL_law_865 : decode cL_law 865 = .ok (.aload_n 2, 1) := by decide +kernel
theorem dL_law_866 : decode cL_law 866 = .ok (.invokevirtual 89, 3) := by decide +kernel
theorem dL_law_869 : decode cL_law 869 = .ok (.iload 5, 2) := by decide +kernel
theorem dL_law_871 : decode cL_law 871 = .ok (.if_icmp .eq 5, 3) := by decide +kernel
theorem dL_law_874 : decode cL_law 874 = .ok (.iconst 0, 1) := by decide +kernel
theorem dL_law_875 : decode cL_law 875 = .ok (.ireturn, 1) := by decide +kernel
theorem dL_law_876 : decode cL_law 876 = .ok (.iload 5, 2) := by decide +kernel
theorem dL_law_878 : decode cL_law 878 = .ok (.ifCond .ne 15, 3) := by decide +kernel
theorem dL_law_881 : decode cL_law 881 = .ok (.aload_n 3, 1) := by decide +kernel
theorem dL_law_882 : decode cL_law 882 = .ok (.iconst 0, 1) := by decide +kernel
theorem dL_law_883 : decode cL_law 883 = .ok (.laload, 1) := by decide +kernel
theorem dL_law_884 : decode cL_law 884 = .ok (.iload 6, 2) := by decide +kernel
theorem dL_law_886 : decode cL_law 886 = .ok (.i2l, 1) := by decide +kernel
theorem dL_law_887 : decode cL_law 887 = .ok (.lcmp, 1) := by decide +kernel
theorem dL_law_888 : decode cL_law 888 = .ok (.ifCond .eq 5, 3) := by decide +kernel
theorem dL_law_891 : decode cL_law 891 = .ok (.iconst 0, 1) := by decide +kernel
theorem dL_law_892 : decode cL_law 892 = .ok (.ireturn, 1) := by decide +kernel
theorem dL_law_893 : decode cL_law 893 = .ok (.goto 825, 3) := by decide +kernel
theorem dL_law_896 : decode cL_law 896 = .ok (.aload_n 1, 1) := by decide +kernel
theorem dL_law_897 : decode cL_law 897 = .ok (.invokevirtual 123, 3) := by decide +kernel
theorem dL_law_900 : decode cL_law 900 = .ok (.aload_n 2, 1) := by decide +kernel
theorem dL_law_901 : decode cL_law 901 = .ok (.invokevirtual 126, 3) := by decide +kernel
theorem dL_law_904 : decode cL_law 904 = .ok (.if_icmp .eq 814, 3) := by decide +kernel
theorem dL_law_907 : decode cL_law 907 = .ok (.iconst 0, 1) := by decide +kernel
theorem dL_law_908 : decode cL_law 908 = .ok (.ireturn, 1) := by decide +kernel
theorem dL_law_909 : decode cL_law 909 = .ok (.aload_n 1, 1) := by decide +kernel
theorem dL_law_910 : decode cL_law 910 = .ok (.invokevirtual 127, 3) := by decide +kernel
theorem dL_law_913 : decode cL_law 913 = .ok (.aload_n 2, 1) := by decide +kernel
theorem dL_law_914 : decode cL_law 914 = .ok (.invokevirtual 130, 3) := by decide +kernel
theorem dL_law_917 : decode cL_law 917 = .ok (.if_icmp .eq 801, 3) := by decide +kernel
theorem dL_law_920 : decode cL_law 920 = .ok (.iconst 0, 1) := by decide +kernel
theorem dL_law_921 : decode cL_law 921 = .ok (.ireturn, 1) := by decide +kernel
theorem dL_law_922 : decode cL_law 922 = .ok (.aload_n 1, 1) := by decide +kernel
theorem dL_law_923 : decode cL_law 923 = .ok (.invokevirtual 131, 3) := by decide +kernel
theorem dL_law_926 : decode cL_law 926 = .ok (.aload_n 2, 1) := by decide +kernel
theorem dL_law_927 : decode cL_law 927 = .ok (.invokevirtual 134, 3) := by decide +kernel
theorem dL_law_930 : decode cL_law 930 = .ok (.if_icmp .eq 788, 3) := by decide +kernel
theorem dL_law_933 : decode cL_law 933 = .ok (.iconst 0, 1) := by decide +kernel
theorem dL_law_934 : decode cL_law 934 = .ok (.ireturn, 1) := by decide +kernel
theorem dL_law_935 : decode cL_law 935 = .ok (.aload_n 1, 1) := by decide +kernel
theorem dL_law_936 : decode cL_law 936 = .ok (.aload_n 0, 1) := by decide +kernel
theorem dL_law_937 : decode cL_law 937 = .ok (.iload 4, 2) := by decide +kernel
theorem dL_law_939 : decode cL_law 939 = .ok (.iconst 1, 1) := by decide +kernel
theorem dL_law_940 : decode cL_law 940 = .ok (.iadd, 1) := by decide +kernel
theorem dL_law_941 : decode cL_law 941 = .ok (.iaload, 1) := by decide +kernel
theorem dL_law_942 : decode cL_law 942 = .ok (.aload_n 0, 1) := by decide +kernel
theorem dL_law_943 : decode cL_law 943 = .ok (.iload 4, 2) := by decide +kernel
theorem dL_law_945 : decode cL_law 945 = .ok (.iconst 2, 1) := by decide +kernel
theorem dL_law_946 : decode cL_law 946 = .ok (.iadd, 1) := by decide +kernel
theorem dL_law_947 : decode cL_law 947 = .ok (.iaload, 1) := by decide +kernel
theorem dL_law_948 : decode cL_law 948 = .ok (.aload_n 3, 1) := by decide +kernel
theorem dL_law_949 : decode cL_law 949 = .ok (.invokestatic 135, 3) := by decide +kernel
theorem dL_law_952 : decode cL_law 952 = .ok (.istore 5, 2) := by decide +kernel
theorem dL_law_954 : decode cL_law 954 = .ok (.aload_n 2, 1) := by decide +kernel
theorem dL_law_955 : decode cL_law 955 = .ok (.aload_n 0, 1) := by decide +kernel
theorem dL_law_956 : decode cL_law 956 = .ok (.iload 4, 2) := by decide +kernel
theorem dL_law_958 : decode cL_law 958 = .ok (.iconst 1, 1) := by decide +kernel
theorem dL_law_959 : decode cL_law 959 = .ok (.iadd, 1) := by decide +kernel
theorem dL_law_960 : decode cL_law 960 = .ok (.iaload, 1) := by decide +kernel
theorem dL_law_961 : decode cL_law 961 = .ok (.aload_n 0, 1) := by decide +kernel
theorem dL_law_962 : decode cL_law 962 = .ok (.iload 4, 2) := by decide +kernel
theorem dL_law_964 : decode cL_law 964 = .ok (.iconst 2, 1) := by decide +kernel
theorem dL_law_965 : decode cL_law 965 = .ok (.iadd, 1) := by decide +kernel
theorem dL_law_966 : decode cL_law 966 = .ok (.iaload, 1) := by decide +kernel
theorem dL_law_967 : decode cL_law 967 = .ok (.invokevirtual 137, 3) := by decide +kernel
theorem dL_law_970 : decode cL_law 970 = .ok (.istore 6, 2) := by decide +kernel
theorem dL_law_972 : decode cL_law 972 = .ok (.aload_n 2, 1) := by decide +kernel
theorem dL_law_973 : decode cL_law 973 = .ok (.invokevirtual 89, 3) := by decide +kernel
theorem dL_law_976 : decode cL_law 976 = .ok (.iload 5, 2) := by decide +kernel
theorem dL_law_978 : decode cL_law 978 = .ok (.if_icmp .eq 5, 3) := by decide +kernel
theorem dL_law_981 : decode cL_law 981 = .ok (.iconst 0, 1) := by decide +kernel
theorem dL_law_982 : decode cL_law 982 = .ok (.ireturn, 1) := by decide +kernel
theorem dL_law_983 : decode cL_law 983 = .ok (.iload 5, 2) := by decide +kernel
theorem dL_law_985 : decode cL_law 985 = .ok (.ifCond .ne 15, 3) := by decide +kernel
theorem dL_law_988 : decode cL_law 988 = .ok (.aload_n 3, 1) := by decide +kernel
theorem dL_law_989 : decode cL_law 989 = .ok (.iconst 0, 1) := by decide +kernel
theorem dL_law_990 : decode cL_law 990 = .ok (.laload, 1) := by decide +kernel
theorem dL_law_991 : decode cL_law 991 = .ok (.iload 6, 2) := by decide +kernel
theorem dL_law_993 : decode cL_law 993 = .ok (.i2l, 1) := by decide +kernel
theorem dL_law_994 : decode cL_law 994 = .ok (.lcmp, 1) := by decide +kernel
theorem dL_law_995 : decode cL_law 995 = .ok (.ifCond .eq 5, 3) := by decide +kernel
theorem dL_law_998 : decode cL_law 998 = .ok (.iconst 0, 1) := by decide +kernel
theorem dL_law_999 : decode cL_law 999 = .ok (.ireturn, 1) := by decide +kernel
theorem dL_law_1000 : decode cL_law 1000 = .ok (.goto 718, 3) := by decide +kernel
theorem dL_law_1003 : decode cL_law 1003 = .ok (.aload_n 1, 1) := by decide +kernel
theorem dL_law_1004 : decode cL_law 1004 = .ok (.aload_n 0, 1) := by decide +kernel
theorem dL_law_1005 : decode cL_law 1005 = .ok (.iload 4, 2) := by decide +kernel
theorem dL_law_1007 : decode cL_law 1007 = .ok (.iconst 1, 1) := by decide +kernel
theorem dL_law_1008 : decode cL_law 1008 = .ok (.iadd, 1) := by decide +kernel
theorem dL_law_1009 : decode cL_law 1009 = .ok (.iaload, 1) := by decide +kernel
theorem dL_law_1010 : decode cL_law 1010 = .ok (.aload_n 0, 1) := by decide +kernel
theorem dL_law_1011 : decode cL_law 1011 = .ok (.iload 4, 2) := by decide +kernel
theorem dL_law_1013 : decode cL_law 1013 = .ok (.iconst 2, 1) := by decide +kernel
theorem dL_law_1014 : decode cL_law 1014 = .ok (.iadd, 1) := by decide +kernel
theorem dL_law_1015 : decode cL_law 1015 = .ok (.iaload, 1) := by decide +kernel
theorem dL_law_1016 : decode cL_law 1016 = .ok (.aload_n 3, 1) := by decide +kernel
theorem dL_law_1017 : decode cL_law 1017 = .ok (.invokestatic 138, 3) := by decide +kernel
theorem dL_law_1020 : decode cL_law 1020 = .ok (.istore 5, 2) := by decide +kernel
theorem dL_law_1022 : decode cL_law 1022 = .ok (.aload_n 2, 1) := by decide +kernel
theorem dL_law_1023 : decode cL_law 1023 = .ok (.aload_n 0, 1) := by decide +kernel
theorem dL_law_1024 : decode cL_law 1024 = .ok (.iload 4, 2) := by decide +kernel
theorem dL_law_1026 : decode cL_law 1026 = .ok (.iconst 1, 1) := by decide +kernel
theorem dL_law_1027 : decode cL_law 1027 = .ok (.iadd, 1) := by decide +kernel
theorem dL_law_1028 : decode cL_law 1028 = .ok (.iaload, 1) := by decide +kernel
theorem dL_law_1029 : decode cL_law 1029 = .ok (.aload_n 0, 1) := by decide +kernel
theorem dL_law_1030 : decode cL_law 1030 = .ok (.iload 4, 2) := by decide +kernel
theorem dL_law_1032 : decode cL_law 1032 = .ok (.iconst 2, 1) := by decide +kernel
theorem dL_law_1033 : decode cL_law 1033 = .ok (.iadd, 1) := by decide +kernel
theorem dL_law_1034 : decode cL_law 1034 = .ok (.iaload, 1) := by decide +kernel
theorem dL_law_1035 : decode cL_law 1035 = .ok (.invokevirtual 140, 3) := by decide +kernel
theorem dL_law_1038 : decode cL_law 1038 = .ok (.istore 6, 2) := by decide +kernel
theorem dL_law_1040 : decode cL_law 1040 = .ok (.aload_n 2, 1) := by decide +kernel
theorem dL_law_1041 : decode cL_law 1041 = .ok (.invokevirtual 89, 3) := by decide +kernel
theorem dL_law_1044 : decode cL_law 1044 = .ok (.iload 5, 2) := by decide +kernel
theorem dL_law_1046 : decode cL_law 1046 = .ok (.if_icmp .eq 5, 3) := by decide +kernel
theorem dL_law_1049 : decode cL_law 1049 = .ok (.iconst 0, 1) := by decide +kernel
theorem dL_law_1050 : decode cL_law 1050 = .ok (.ireturn, 1) := by decide +kernel
theorem dL_law_1051 : decode cL_law 1051 = .ok (.iload 5, 2) := by decide +kernel
theorem dL_law_1053 : decode cL_law 1053 = .ok (.ifCond .ne 15, 3) := by decide +kernel
theorem dL_law_1056 : decode cL_law 1056 = .ok (.aload_n 3, 1) := by decide +kernel
theorem dL_law_1057 : decode cL_law 1057 = .ok (.iconst 0, 1) := by decide +kernel
theorem dL_law_1058 : decode cL_law 1058 = .ok (.laload, 1) := by decide +kernel
theorem dL_law_1059 : decode cL_law 1059 = .ok (.iload 6, 2) := by decide +kernel
theorem dL_law_1061 : decode cL_law 1061 = .ok (.i2l, 1) := by decide +kernel
theorem dL_law_1062 : decode cL_law 1062 = .ok (.lcmp, 1) := by decide +kernel
theorem dL_law_1063 : decode cL_law 1063 = .ok (.ifCond .eq 5, 3) := by decide +kernel
theorem dL_law_1066 : decode cL_law 1066 = .ok (.iconst 0, 1) := by decide +kernel
theorem dL_law_1067 : decode cL_law 1067 = .ok (.ireturn, 1) := by decide +kernel
theorem dL_law_1068 : decode cL_law 1068 = .ok (.goto 650, 3) := by decide +kernel
theorem dL_law_1071 : decode cL_law 1071 = .ok (.aload_n 1, 1) := by decide +kernel
theorem dL_law_1072 : decode cL_law 1072 = .ok (.aload_n 0, 1) := by decide +kernel
theorem dL_law_1073 : decode cL_law 1073 = .ok (.iload 4, 2) := by decide +kernel
theorem dL_law_1075 : decode cL_law 1075 = .ok (.iconst 1, 1) := by decide +kernel
theorem dL_law_1076 : decode cL_law 1076 = .ok (.iadd, 1) := by decide +kernel
theorem dL_law_1077 : decode cL_law 1077 = .ok (.iaload, 1) := by decide +kernel
theorem dL_law_1078 : decode cL_law 1078 = .ok (.aload_n 0, 1) := by decide +kernel
theorem dL_law_1079 : decode cL_law 1079 = .ok (.iload 4, 2) := by decide +kernel
theorem dL_law_1081 : decode cL_law 1081 = .ok (.iconst 2, 1) := by decide +kernel
theorem dL_law_1082 : decode cL_law 1082 = .ok (.iadd, 1) := by decide +kernel
theorem dL_law_1083 : decode cL_law 1083 = .ok (.iaload, 1) := by decide +kernel
theorem dL_law_1084 : decode cL_law 1084 = .ok (.aload_n 3, 1) := by decide +kernel
theorem dL_law_1085 : decode cL_law 1085 = .ok (.invokestatic 141, 3) := by decide +kernel
theorem dL_law_1088 : decode cL_law 1088 = .ok (.istore 5, 2) := by decide +kernel
theorem dL_law_1090 : decode cL_law 1090 = .ok (.aload_n 2, 1) := by decide +kernel
theorem dL_law_1091 : decode cL_law 1091 = .ok (.aload_n 0, 1) := by decide +kernel
theorem dL_law_1092 : decode cL_law 1092 = .ok (.iload 4, 2) := by decide +kernel
theorem dL_law_1094 : decode cL_law 1094 = .ok (.iconst 1, 1) := by decide +kernel
theorem dL_law_1095 : decode cL_law 1095 = .ok (.iadd, 1) := by decide +kernel
theorem dL_law_1096 : decode cL_law 1096 = .ok (.iaload, 1) := by decide +kernel
theorem dL_law_1097 : decode cL_law 1097 = .ok (.aload_n 0, 1) := by decide +kernel
theorem dL_law_1098 : decode cL_law 1098 = .ok (.iload 4, 2) := by decide +kernel
theorem dL_law_1100 : decode cL_law 1100 = .ok (.iconst 2, 1) := by decide +kernel
theorem dL_law_1101 : decode cL_law 1101 = .ok (.iadd, 1) := by decide +kernel
theorem dL_law_1102 : decode cL_law 1102 = .ok (.iaload, 1) := by decide +kernel
theorem dL_law_1103 : decode cL_law 1103 = .ok (.invokevirtual 143, 3) := by decide +kernel
theorem dL_law_1106 : decode cL_law 1106 = .ok (.istore 6, 2) := by decide +kernel
theorem dL_law_1108 : decode cL_law 1108 = .ok (.aload_n 2, 1) := by decide +kernel
theorem dL_law_1109 : decode cL_law 1109 = .ok (.invokevirtual 89, 3) := by decide +kernel
theorem dL_law_1112 : decode cL_law 1112 = .ok (.iload 5, 2) := by decide +kernel
theorem dL_law_1114 : decode cL_law 1114 = .ok (.if_icmp .eq 5, 3) := by decide +kernel
theorem dL_law_1117 : decode cL_law 1117 = .ok (.iconst 0, 1) := by decide +kernel
theorem dL_law_1118 : decode cL_law 1118 = .ok (.ireturn, 1) := by decide +kernel
theorem dL_law_1119 : decode cL_law 1119 = .ok (.iload 5, 2) := by decide +kernel
theorem dL_law_1121 : decode cL_law 1121 = .ok (.ifCond .ne 15, 3) := by decide +kernel
theorem dL_law_1124 : decode cL_law 1124 = .ok (.aload_n 3, 1) := by decide +kernel
theorem dL_law_1125 : decode cL_law 1125 = .ok (.iconst 0, 1) := by decide +kernel
theorem dL_law_1126 : decode cL_law 1126 = .ok (.laload, 1) := by decide +kernel
theorem dL_law_1127 : decode cL_law 1127 = .ok (.iload 6, 2) := by decide +kernel
theorem dL_law_1129 : decode cL_law 1129 = .ok (.i2l, 1) := by decide +kernel
theorem dL_law_1130 : decode cL_law 1130 = .ok (.lcmp, 1) := by decide +kernel
theorem dL_law_1131 : decode cL_law 1131 = .ok (.ifCond .eq 5, 3) := by decide +kernel
theorem dL_law_1134 : decode cL_law 1134 = .ok (.iconst 0, 1) := by decide +kernel
theorem dL_law_1135 : decode cL_law 1135 = .ok (.ireturn, 1) := by decide +kernel
theorem dL_law_1136 : decode cL_law 1136 = .ok (.goto 582, 3) := by decide +kernel
theorem dL_law_1139 : decode cL_law 1139 = .ok (.aload_n 1, 1) := by decide +kernel
theorem dL_law_1140 : decode cL_law 1140 = .ok (.aload_n 0, 1) := by decide +kernel
theorem dL_law_1141 : decode cL_law 1141 = .ok (.iload 4, 2) := by decide +kernel
theorem dL_law_1143 : decode cL_law 1143 = .ok (.iconst 1, 1) := by decide +kernel
theorem dL_law_1144 : decode cL_law 1144 = .ok (.iadd, 1) := by decide +kernel
theorem dL_law_1145 : decode cL_law 1145 = .ok (.iaload, 1) := by decide +kernel
theorem dL_law_1146 : decode cL_law 1146 = .ok (.aload_n 0, 1) := by decide +kernel
theorem dL_law_1147 : decode cL_law 1147 = .ok (.iload 4, 2) := by decide +kernel
theorem dL_law_1149 : decode cL_law 1149 = .ok (.iconst 2, 1) := by decide +kernel
theorem dL_law_1150 : decode cL_law 1150 = .ok (.iadd, 1) := by decide +kernel
theorem dL_law_1151 : decode cL_law 1151 = .ok (.iaload, 1) := by decide +kernel
theorem dL_law_1152 : decode cL_law 1152 = .ok (.aload_n 3, 1) := by decide +kernel
theorem dL_law_1153 : decode cL_law 1153 = .ok (.invokestatic 144, 3) := by decide +kernel
theorem dL_law_1156 : decode cL_law 1156 = .ok (.istore 5, 2) := by decide +kernel
theorem dL_law_1158 : decode cL_law 1158 = .ok (.aload_n 2, 1) := by decide +kernel
theorem dL_law_1159 : decode cL_law 1159 = .ok (.aload_n 0, 1) := by decide +kernel
theorem dL_law_1160 : decode cL_law 1160 = .ok (.iload 4, 2) := by decide +kernel
theorem dL_law_1162 : decode cL_law 1162 = .ok (.iconst 1, 1) := by decide +kernel
theorem dL_law_1163 : decode cL_law 1163 = .ok (.iadd, 1) := by decide +kernel
theorem dL_law_1164 : decode cL_law 1164 = .ok (.iaload, 1) := by decide +kernel
theorem dL_law_1165 : decode cL_law 1165 = .ok (.aload_n 0, 1) := by decide +kernel
theorem dL_law_1166 : decode cL_law 1166 = .ok (.iload 4, 2) := by decide +kernel
theorem dL_law_1168 : decode cL_law 1168 = .ok (.iconst 2, 1) := by decide +kernel
theorem dL_law_1169 : decode cL_law 1169 = .ok (.iadd, 1) := by decide +kernel
theorem dL_law_1170 : decode cL_law 1170 = .ok (.iaload, 1) := by decide +kernel
theorem dL_law_1171 : decode cL_law 1171 = .ok (.invokevirtual 146, 3) := by decide +kernel
theorem dL_law_1174 : decode cL_law 1174 = .ok (.istore 6, 2) := by decide +kernel
theorem dL_law_1176 : decode cL_law 1176 = .ok (.aload_n 2, 1) := by decide +kernel
theorem dL_law_1177 : decode cL_law 1177 = .ok (.invokevirtual 89, 3) := by decide +kernel
theorem dL_law_1180 : decode cL_law 1180 = .ok (.iload 5, 2) := by decide +kernel
theorem dL_law_1182 : decode cL_law 1182 = .ok (.if_icmp .eq 5, 3) := by decide +kernel
theorem dL_law_1185 : decode cL_law 1185 = .ok (.iconst 0, 1) := by decide +kernel
theorem dL_law_1186 : decode cL_law 1186 = .ok (.ireturn, 1) := by decide +kernel
theorem dL_law_1187 : decode cL_law 1187 = .ok (.iload 5, 2) := by decide +kernel
theorem dL_law_1189 : decode cL_law 1189 = .ok (.ifCond .ne 15, 3) := by decide +kernel
theorem dL_law_1192 : decode cL_law 1192 = .ok (.aload_n 3, 1) := by decide +kernel
theorem dL_law_1193 : decode cL_law 1193 = .ok (.iconst 0, 1) := by decide +kernel
theorem dL_law_1194 : decode cL_law 1194 = .ok (.laload, 1) := by decide +kernel
theorem dL_law_1195 : decode cL_law 1195 = .ok (.iload 6, 2) := by decide +kernel
theorem dL_law_1197 : decode cL_law 1197 = .ok (.i2l, 1) := by decide +kernel
theorem dL_law_1198 : decode cL_law 1198 = .ok (.lcmp, 1) := by decide +kernel
theorem dL_law_1199 : decode cL_law 1199 = .ok (.ifCond .eq 5, 3) := by decide +kernel
theorem dL_law_1202 : decode cL_law 1202 = .ok (.iconst 0, 1) := by decide +kernel
theorem dL_law_1203 : decode cL_law 1203 = .ok (.ireturn, 1) := by decide +kernel
theorem dL_law_1204 : decode cL_law 1204 = .ok (.goto 514, 3) := by decide +kernel
theorem dL_law_1207 : decode cL_law 1207 = .ok (.aload_n 1, 1) := by decide +kernel
theorem dL_law_1208 : decode cL_law 1208 = .ok (.aload_n 0, 1) := by decide +kernel
theorem dL_law_1209 : decode cL_law 1209 = .ok (.iload 4, 2) := by decide +kernel
theorem dL_law_1211 : decode cL_law 1211 = .ok (.iconst 1, 1) := by decide +kernel
theorem dL_law_1212 : decode cL_law 1212 = .ok (.iadd, 1) := by decide +kernel
theorem dL_law_1213 : decode cL_law 1213 = .ok (.iaload, 1) := by decide +kernel
theorem dL_law_1214 : decode cL_law 1214 = .ok (.aload_n 0, 1) := by decide +kernel
theorem dL_law_1215 : decode cL_law 1215 = .ok (.iload 4, 2) := by decide +kernel
theorem dL_law_1217 : decode cL_law 1217 = .ok (.iconst 2, 1) := by decide +kernel
theorem dL_law_1218 : decode cL_law 1218 = .ok (.iadd, 1) := by decide +kernel
theorem dL_law_1219 : decode cL_law 1219 = .ok (.iaload, 1) := by decide +kernel
theorem dL_law_1220 : decode cL_law 1220 = .ok (.aload_n 3, 1) := by decide +kernel
theorem dL_law_1221 : decode cL_law 1221 = .ok (.invokestatic 147, 3) := by decide +kernel
theorem dL_law_1224 : decode cL_law 1224 = .ok (.istore 5, 2) := by decide +kernel
theorem dL_law_1226 : decode cL_law 1226 = .ok (.aload_n 2, 1) := by decide +kernel
theorem dL_law_1227 : decode cL_law 1227 = .ok (.aload_n 0, 1) := by decide +kernel
theorem dL_law_1228 : decode cL_law 1228 = .ok (.iload 4, 2) := by decide +kernel
theorem dL_law_1230 : decode cL_law 1230 = .ok (.iconst 1, 1) := by decide +kernel
theorem dL_law_1231 : decode cL_law 1231 = .ok (.iadd, 1) := by decide +kernel
theorem dL_law_1232 : decode cL_law 1232 = .ok (.iaload, 1) := by decide +kernel
theorem dL_law_1233 : decode cL_law 1233 = .ok (.aload_n 0, 1) := by decide +kernel
theorem dL_law_1234 : decode cL_law 1234 = .ok (.iload 4, 2) := by decide +kernel
theorem dL_law_1236 : decode cL_law 1236 = .ok (.iconst 2, 1) := by decide +kernel
theorem dL_law_1237 : decode cL_law 1237 = .ok (.iadd, 1) := by decide +kernel
theorem dL_law_1238 : decode cL_law 1238 = .ok (.iaload, 1) := by decide +kernel
theorem dL_law_1239 : decode cL_law 1239 = .ok (.invokevirtual 149, 3) := by decide +kernel
theorem dL_law_1242 : decode cL_law 1242 = .ok (.istore 6, 2) := by decide +kernel
theorem dL_law_1244 : decode cL_law 1244 = .ok (.aload_n 2, 1) := by decide +kernel
theorem dL_law_1245 : decode cL_law 1245 = .ok (.invokevirtual 89, 3) := by decide +kernel
theorem dL_law_1248 : decode cL_law 1248 = .ok (.iload 5, 2) := by decide +kernel
theorem dL_law_1250 : decode cL_law 1250 = .ok (.if_icmp .eq 5, 3) := by decide +kernel
theorem dL_law_1253 : decode cL_law 1253 = .ok (.iconst 0, 1) := by decide +kernel
theorem dL_law_1254 : decode cL_law 1254 = .ok (.ireturn, 1) := by decide +kernel
theorem dL_law_1255 : decode cL_law 1255 = .ok (.iload 5, 2) := by decide +kernel
theorem dL_law_1257 : decode cL_law 1257 = .ok (.ifCond .ne 15, 3) := by decide +kernel
theorem dL_law_1260 : decode cL_law 1260 = .ok (.aload_n 3, 1) := by decide +kernel
theorem dL_law_1261 : decode cL_law 1261 = .ok (.iconst 0, 1) := by decide +kernel
theorem dL_law_1262 : decode cL_law 1262 = .ok (.laload, 1) := by decide +kernel
theorem dL_law_1263 : decode cL_law 1263 = .ok (.iload 6, 2) := by decide +kernel
theorem dL_law_1265 : decode cL_law 1265 = .ok (.i2l, 1) := by decide +kernel
theorem dL_law_1266 : decode cL_law 1266 = .ok (.lcmp, 1) := by decide +kernel
theorem dL_law_1267 : decode cL_law 1267 = .ok (.ifCond .eq 5, 3) := by decide +kernel
theorem dL_law_1270 : decode cL_law 1270 = .ok (.iconst 0, 1) := by decide +kernel
theorem dL_law_1271 : decode cL_law 1271 = .ok (.ireturn, 1) := by decide +kernel
theorem dL_law_1272 : decode cL_law 1272 = .ok (.goto 446, 3) := by decide +kernel
theorem dL_law_1275 : decode cL_law 1275 = .ok (.aload_n 1, 1) := by decide +kernel
theorem dL_law_1276 : decode cL_law 1276 = .ok (.aload_n 0, 1) := by decide +kernel
theorem dL_law_1277 : decode cL_law 1277 = .ok (.iload 4, 2) := by decide +kernel
theorem dL_law_1279 : decode cL_law 1279 = .ok (.iconst 1, 1) := by decide +kernel
theorem dL_law_1280 : decode cL_law 1280 = .ok (.iadd, 1) := by decide +kernel
theorem dL_law_1281 : decode cL_law 1281 = .ok (.iaload, 1) := by decide +kernel
theorem dL_law_1282 : decode cL_law 1282 = .ok (.aload_n 0, 1) := by decide +kernel
theorem dL_law_1283 : decode cL_law 1283 = .ok (.iload 4, 2) := by decide +kernel
theorem dL_law_1285 : decode cL_law 1285 = .ok (.iconst 2, 1) := by decide +kernel
theorem dL_law_1286 : decode cL_law 1286 = .ok (.iadd, 1) := by decide +kernel
theorem dL_law_1287 : decode cL_law 1287 = .ok (.iaload, 1) := by decide +kernel
theorem dL_law_1288 : decode cL_law 1288 = .ok (.aload_n 3, 1) := by decide +kernel
theorem dL_law_1289 : decode cL_law 1289 = .ok (.invokestatic 150, 3) := by decide +kernel
theorem dL_law_1292 : decode cL_law 1292 = .ok (.istore 5, 2) := by decide +kernel
theorem dL_law_1294 : decode cL_law 1294 = .ok (.aload_n 2, 1) := by decide +kernel
theorem dL_law_1295 : decode cL_law 1295 = .ok (.aload_n 0, 1) := by decide +kernel
theorem dL_law_1296 : decode cL_law 1296 = .ok (.iload 4, 2) := by decide +kernel
theorem dL_law_1298 : decode cL_law 1298 = .ok (.iconst 1, 1) := by decide +kernel
theorem dL_law_1299 : decode cL_law 1299 = .ok (.iadd, 1) := by decide +kernel
theorem dL_law_1300 : decode cL_law 1300 = .ok (.iaload, 1) := by decide +kernel
theorem dL_law_1301 : decode cL_law 1301 = .ok (.aload_n 0, 1) := by decide +kernel
theorem dL_law_1302 : decode cL_law 1302 = .ok (.iload 4, 2) := by decide +kernel
theorem dL_law_1304 : decode cL_law 1304 = .ok (.iconst 2, 1) := by decide +kernel
theorem dL_law_1305 : decode cL_law 1305 = .ok (.iadd, 1) := by decide +kernel
theorem dL_law_1306 : decode cL_law 1306 = .ok (.iaload, 1) := by decide +kernel
theorem dL_law_1307 : decode cL_law 1307 = .ok (.invokevirtual 152, 3) := by decide +kernel
theorem dL_law_1310 : decode cL_law 1310 = .ok (.istore 6, 2) := by decide +kernel
theorem dL_law_1312 : decode cL_law 1312 = .ok (.aload_n 2, 1) := by decide +kernel
theorem dL_law_1313 : decode cL_law 1313 = .ok (.invokevirtual 89, 3) := by decide +kernel
theorem dL_law_1316 : decode cL_law 1316 = .ok (.iload 5, 2) := by decide +kernel
theorem dL_law_1318 : decode cL_law 1318 = .ok (.if_icmp .eq 5, 3) := by decide +kernel
theorem dL_law_1321 : decode cL_law 1321 = .ok (.iconst 0, 1) := by decide +kernel
theorem dL_law_1322 : decode cL_law 1322 = .ok (.ireturn, 1) := by decide +kernel
theorem dL_law_1323 : decode cL_law 1323 = .ok (.iload 5, 2) := by decide +kernel
theorem dL_law_1325 : decode cL_law 1325 = .ok (.ifCond .ne 15, 3) := by decide +kernel
theorem dL_law_1328 : decode cL_law 1328 = .ok (.aload_n 3, 1) := by decide +kernel
theorem dL_law_1329 : decode cL_law 1329 = .ok (.iconst 0, 1) := by decide +kernel
theorem dL_law_1330 : decode cL_law 1330 = .ok (.laload, 1) := by decide +kernel
theorem dL_law_1331 : decode cL_law 1331 = .ok (.iload 6, 2) := by decide +kernel
theorem dL_law_1333 : decode cL_law 1333 = .ok (.i2l, 1) := by decide +kernel
theorem dL_law_1334 : decode cL_law 1334 = .ok (.lcmp, 1) := by decide +kernel
theorem dL_law_1335 : decode cL_law 1335 = .ok (.ifCond .eq 5, 3) := by decide +kernel
theorem dL_law_1338 : decode cL_law 1338 = .ok (.iconst 0, 1) := by decide +kernel
theorem dL_law_1339 : decode cL_law 1339 = .ok (.ireturn, 1) := by decide +kernel
theorem dL_law_1340 : decode cL_law 1340 = .ok (.goto 378, 3) := by decide +kernel
theorem dL_law_1343 : decode cL_law 1343 = .ok (.aload_n 1, 1) := by decide +kernel
theorem dL_law_1344 : decode cL_law 1344 = .ok (.aload_n 0, 1) := by decide +kernel
theorem dL_law_1345 : decode cL_law 1345 = .ok (.iload 4, 2) := by decide +kernel
theorem dL_law_1347 : decode cL_law 1347 = .ok (.iconst 1, 1) := by decide +kernel
theorem dL_law_1348 : decode cL_law 1348 = .ok (.iadd, 1) := by decide +kernel
theorem dL_law_1349 : decode cL_law 1349 = .ok (.iaload, 1) := by decide +kernel
theorem dL_law_1350 : decode cL_law 1350 = .ok (.aload_n 0, 1) := by decide +kernel
theorem dL_law_1351 : decode cL_law 1351 = .ok (.iload 4, 2) := by decide +kernel
theorem dL_law_1353 : decode cL_law 1353 = .ok (.iconst 2, 1) := by decide +kernel
theorem dL_law_1354 : decode cL_law 1354 = .ok (.iadd, 1) := by decide +kernel
theorem dL_law_1355 : decode cL_law 1355 = .ok (.iaload, 1) := by decide +kernel
theorem dL_law_1356 : decode cL_law 1356 = .ok (.aload_n 3, 1) := by decide +kernel
theorem dL_law_1357 : decode cL_law 1357 = .ok (.invokestatic 153, 3) := by decide +kernel
theorem dL_law_1360 : decode cL_law 1360 = .ok (.istore 5, 2) := by decide +kernel
theorem dL_law_1362 : decode cL_law 1362 = .ok (.aload_n 2, 1) := by decide +kernel
theorem dL_law_1363 : decode cL_law 1363 = .ok (.aload_n 0, 1) := by decide +kernel
theorem dL_law_1364 : decode cL_law 1364 = .ok (.iload 4, 2) := by decide +kernel
theorem dL_law_1366 : decode cL_law 1366 = .ok (.iconst 1, 1) := by decide +kernel
theorem dL_law_1367 : decode cL_law 1367 = .ok (.iadd, 1) := by decide +kernel
theorem dL_law_1368 : decode cL_law 1368 = .ok (.iaload, 1) := by decide +kernel
theorem dL_law_1369 : decode cL_law 1369 = .ok (.aload_n 0, 1) := by decide +kernel
theorem dL_law_1370 : decode cL_law 1370 = .ok (.iload 4, 2) := by decide +kernel
theorem dL_law_1372 : decode cL_law 1372 = .ok (.iconst 2, 1) := by decide +kernel
theorem dL_law_1373 : decode cL_law 1373 = .ok (.iadd, 1) := by decide +kernel
theorem dL_law_1374 : decode cL_law 1374 = .ok (.iaload, 1) := by decide +kernel
theorem dL_law_1375 : decode cL_law 1375 = .ok (.invokevirtual 155, 3) := by decide +kernel
theorem dL_law_1378 : decode cL_law 1378 = .ok (.istore 6, 2) := by decide +kernel
theorem dL_law_1380 : decode cL_law 1380 = .ok (.aload_n 2, 1) := by decide +kernel
theorem dL_law_1381 : decode cL_law 1381 = .ok (.invokevirtual 89, 3) := by decide +kernel
theorem dL_law_1384 : decode cL_law 1384 = .ok (.iload 5, 2) := by decide +kernel
theorem dL_law_1386 : decode cL_law 1386 = .ok (.if_icmp .eq 5, 3) := by decide +kernel
theorem dL_law_1389 : decode cL_law 1389 = .ok (.iconst 0, 1) := by decide +kernel
theorem dL_law_1390 : decode cL_law 1390 = .ok (.ireturn, 1) := by decide +kernel
theorem dL_law_1391 : decode cL_law 1391 = .ok (.iload 5, 2) := by decide +kernel
theorem dL_law_1393 : decode cL_law 1393 = .ok (.ifCond .ne 22, 3) := by decide +kernel
theorem dL_law_1396 : decode cL_law 1396 = .ok (.aload_n 3, 1) := by decide +kernel
theorem dL_law_1397 : decode cL_law 1397 = .ok (.iconst 0, 1) := by decide +kernel
theorem dL_law_1398 : decode cL_law 1398 = .ok (.laload, 1) := by decide +kernel
theorem dL_law_1399 : decode cL_law 1399 = .ok (.iload 6, 2) := by decide +kernel
theorem dL_law_1401 : decode cL_law 1401 = .ok (.ifCond .eq 7, 3) := by decide +kernel
theorem dL_law_1404 : decode cL_law 1404 = .ok (.lconst 1, 1) := by decide +kernel
theorem dL_law_1405 : decode cL_law 1405 = .ok (.goto 4, 3) := by decide +kernel
theorem dL_law_1408 : decode cL_law 1408 = .ok (.lconst 0, 1) := by decide +kernel
theorem dL_law_1409 : decode cL_law 1409 = .ok (.lcmp, 1) := by decide +kernel
theorem dL_law_1410 : decode cL_law 1410 = .ok (.ifCond .eq 5, 3) := by decide +kernel
theorem dL_law_1413 : decode cL_law 1413 = .ok (.iconst 0, 1) := by decide +kernel
theorem dL_law_1414 : decode cL_law 1414 = .ok (.ireturn, 1) := by decide +kernel
theorem dL_law_1415 : decode cL_law 1415 = .ok (.goto 303, 3) := by decide +kernel
theorem dL_law_1418 : decode cL_law 1418 = .ok (.aload_n 1, 1) := by decide +kernel
theorem dL_law_1419 : decode cL_law 1419 = .ok (.aload_n 0, 1) := by decide +kernel
theorem dL_law_1420 : decode cL_law 1420 = .ok (.iload 4, 2) := by decide +kernel
theorem dL_law_1422 : decode cL_law 1422 = .ok (.iconst 1, 1) := by decide +kernel
theorem dL_law_1423 : decode cL_law 1423 = .ok (.iadd, 1) := by decide +kernel
theorem dL_law_1424 : decode cL_law 1424 = .ok (.iaload, 1) := by decide +kernel
theorem dL_law_1425 : decode cL_law 1425 = .ok (.aload_n 3, 1) := by decide +kernel
theorem dL_law_1426 : decode cL_law 1426 = .ok (.invokestatic 156, 3) := by decide +kernel
theorem dL_law_1429 : decode cL_law 1429 = .ok (.istore 5, 2) := by decide +kernel
theorem dL_law_1431 : decode cL_law 1431 = .ok (.aload_n 2, 1) := by decide +kernel
theorem dL_law_1432 : decode cL_law 1432 = .ok (.aload_n 0, 1) := by decide +kernel
theorem dL_law_1433 : decode cL_law 1433 = .ok (.iload 4, 2) := by decide +kernel
theorem dL_law_1435 : decode cL_law 1435 = .ok (.iconst 1, 1) := by decide +kernel
theorem dL_law_1436 : decode cL_law 1436 = .ok (.iadd, 1) := by decide +kernel
theorem dL_law_1437 : decode cL_law 1437 = .ok (.iaload, 1) := by decide +kernel
theorem dL_law_1438 : decode cL_law 1438 = .ok (.invokevirtual 158, 3) := by decide +kernel
theorem dL_law_1441 : decode cL_law 1441 = .ok (.istore 6, 2) := by decide +kernel
theorem dL_law_1443 : decode cL_law 1443 = .ok (.aload_n 2, 1) := by decide +kernel
theorem dL_law_1444 : decode cL_law 1444 = .ok (.invokevirtual 89, 3) := by decide +kernel
theorem dL_law_1447 : decode cL_law 1447 = .ok (.iload 5, 2) := by decide +kernel
theorem dL_law_1449 : decode cL_law 1449 = .ok (.if_icmp .eq 5, 3) := by decide +kernel
theorem dL_law_1452 : decode cL_law 1452 = .ok (.iconst 0, 1) := by decide +kernel
theorem dL_law_1453 : decode cL_law 1453 = .ok (.ireturn, 1) := by decide +kernel
theorem dL_law_1454 : decode cL_law 1454 = .ok (.iload 5, 2) := by decide +kernel
theorem dL_law_1456 : decode cL_law 1456 = .ok (.ifCond .ne 15, 3) := by decide +kernel
theorem dL_law_1459 : decode cL_law 1459 = .ok (.aload_n 3, 1) := by decide +kernel
theorem dL_law_1460 : decode cL_law 1460 = .ok (.iconst 0, 1) := by decide +kernel
theorem dL_law_1461 : decode cL_law 1461 = .ok (.laload, 1) := by decide +kernel
theorem dL_law_1462 : decode cL_law 1462 = .ok (.iload 6, 2) := by decide +kernel
theorem dL_law_1464 : decode cL_law 1464 = .ok (.i2l, 1) := by decide +kernel
theorem dL_law_1465 : decode cL_law 1465 = .ok (.lcmp, 1) := by decide +kernel
theorem dL_law_1466 : decode cL_law 1466 = .ok (.ifCond .eq 5, 3) := by decide +kernel
theorem dL_law_1469 : decode cL_law 1469 = .ok (.iconst 0, 1) := by decide +kernel
theorem dL_law_1470 : decode cL_law 1470 = .ok (.ireturn, 1) := by decide +kernel
theorem dL_law_1471 : decode cL_law 1471 = .ok (.goto 247, 3) := by decide +kernel
theorem dL_law_1474 : decode cL_law 1474 = .ok (.aload_n 1, 1) := by decide +kernel
theorem dL_law_1475 : decode cL_law 1475 = .ok (.aload_n 0, 1) := by decide +kernel
theorem dL_law_1476 : decode cL_law 1476 = .ok (.iload 4, 2) := by decide +kernel
theorem dL_law_1478 : decode cL_law 1478 = .ok (.iconst 1, 1) := by decide +kernel
theorem dL_law_1479 : decode cL_law 1479 = .ok (.iadd, 1) := by decide +kernel
theorem dL_law_1480 : decode cL_law 1480 = .ok (.iaload, 1) := by decide +kernel
theorem dL_law_1481 : decode cL_law 1481 = .ok (.aload_n 0, 1) := by decide +kernel
theorem dL_law_1482 : decode cL_law 1482 = .ok (.iload 4, 2) := by decide +kernel
theorem dL_law_1484 : decode cL_law 1484 = .ok (.iconst 2, 1) := by decide +kernel
theorem dL_law_1485 : decode cL_law 1485 = .ok (.iadd, 1) := by decide +kernel
theorem dL_law_1486 : decode cL_law 1486 = .ok (.iaload, 1) := by decide +kernel
theorem dL_law_1487 : decode cL_law 1487 = .ok (.aload_n 3, 1) := by decide +kernel
theorem dL_law_1488 : decode cL_law 1488 = .ok (.invokestatic 159, 3) := by decide +kernel
theorem dL_law_1491 : decode cL_law 1491 = .ok (.istore 5, 2) := by decide +kernel
theorem dL_law_1493 : decode cL_law 1493 = .ok (.aload_n 2, 1) := by decide +kernel
theorem dL_law_1494 : decode cL_law 1494 = .ok (.aload_n 0, 1) := by decide +kernel
theorem dL_law_1495 : decode cL_law 1495 = .ok (.iload 4, 2) := by decide +kernel
theorem dL_law_1497 : decode cL_law 1497 = .ok (.iconst 1, 1) := by decide +kernel
theorem dL_law_1498 : decode cL_law 1498 = .ok (.iadd, 1) := by decide +kernel
theorem dL_law_1499 : decode cL_law 1499 = .ok (.iaload, 1) := by decide +kernel
theorem dL_law_1500 : decode cL_law 1500 = .ok (.aload_n 0, 1) := by decide +kernel
theorem dL_law_1501 : decode cL_law 1501 = .ok (.iload 4, 2) := by decide +kernel
theorem dL_law_1503 : decode cL_law 1503 = .ok (.iconst 2, 1) := by decide +kernel
theorem dL_law_1504 : decode cL_law 1504 = .ok (.iadd, 1) := by decide +kernel
theorem dL_law_1505 : decode cL_law 1505 = .ok (.iaload, 1) := by decide +kernel
theorem dL_law_1506 : decode cL_law 1506 = .ok (.invokevirtual 161, 3) := by decide +kernel
theorem dL_law_1509 : decode cL_law 1509 = .ok (.istore 6, 2) := by decide +kernel
theorem dL_law_1511 : decode cL_law 1511 = .ok (.aload_n 2, 1) := by decide +kernel
theorem dL_law_1512 : decode cL_law 1512 = .ok (.invokevirtual 89, 3) := by decide +kernel
theorem dL_law_1515 : decode cL_law 1515 = .ok (.iload 5, 2) := by decide +kernel
theorem dL_law_1517 : decode cL_law 1517 = .ok (.if_icmp .eq 5, 3) := by decide +kernel
theorem dL_law_1520 : decode cL_law 1520 = .ok (.iconst 0, 1) := by decide +kernel
theorem dL_law_1521 : decode cL_law 1521 = .ok (.ireturn, 1) := by decide +kernel
theorem dL_law_1522 : decode cL_law 1522 = .ok (.iload 5, 2) := by decide +kernel
theorem dL_law_1524 : decode cL_law 1524 = .ok (.ifCond .ne 15, 3) := by decide +kernel
theorem dL_law_1527 : decode cL_law 1527 = .ok (.aload_n 3, 1) := by decide +kernel
theorem dL_law_1528 : decode cL_law 1528 = .ok (.iconst 0, 1) := by decide +kernel
theorem dL_law_1529 : decode cL_law 1529 = .ok (.laload, 1) := by decide +kernel
theorem dL_law_1530 : decode cL_law 1530 = .ok (.iload 6, 2) := by decide +kernel
theorem dL_law_1532 : decode cL_law 1532 = .ok (.i2l, 1) := by decide +kernel
theorem dL_law_1533 : decode cL_law 1533 = .ok (.lcmp, 1) := by decide +kernel
theorem dL_law_1534 : decode cL_law 1534 = .ok (.ifCond .eq 5, 3) := by decide +kernel
theorem dL_law_1537 : decode cL_law 1537 = .ok (.iconst 0, 1) := by decide +kernel
theorem dL_law_1538 : decode cL_law 1538 = .ok (.ireturn, 1) := by decide +kernel
theorem dL_law_1539 : decode cL_law 1539 = .ok (.goto 179, 3) := by decide +kernel
theorem dL_law_1542 : decode cL_law 1542 = .ok (.aload_n 1, 1) := by decide +kernel
theorem dL_law_1543 : decode cL_law 1543 = .ok (.invokevirtual 162, 3) := by decide +kernel
theorem dL_law_1546 : decode cL_law 1546 = .ok (.aload_n 2, 1) := by decide +kernel
theorem dL_law_1547 : decode cL_law 1547 = .ok (.invokevirtual 165, 3) := by decide +kernel
theorem dL_law_1550 : decode cL_law 1550 = .ok (.if_icmp .eq 168, 3) := by decide +kernel
theorem dL_law_1553 : decode cL_law 1553 = .ok (.iconst 0, 1) := by decide +kernel
theorem dL_law_1554 : decode cL_law 1554 = .ok (.ireturn, 1) := by decide +kernel
theorem dL_law_1555 : decode cL_law 1555 = .ok (.aload_n 1, 1) := by decide +kernel
theorem dL_law_1556 : decode cL_law 1556 = .ok (.aload_n 0, 1) := by decide +kernel
theorem dL_law_1557 : decode cL_law 1557 = .ok (.iload 4, 2) := by decide +kernel
theorem dL_law_1559 : decode cL_law 1559 = .ok (.iconst 1, 1) := by decide +kernel
theorem dL_law_1560 : decode cL_law 1560 = .ok (.iadd, 1) := by decide +kernel
theorem dL_law_1561 : decode cL_law 1561 = .ok (.iaload, 1) := by decide +kernel
theorem dL_law_1562 : decode cL_law 1562 = .ok (.aload_n 0, 1) := by decide +kernel
theorem dL_law_1563 : decode cL_law 1563 = .ok (.iload 4, 2) := by decide +kernel
theorem dL_law_1565 : decode cL_law 1565 = .ok (.iconst 2, 1) := by decide +kernel
theorem dL_law_1566 : decode cL_law 1566 = .ok (.iadd, 1) := by decide +kernel
theorem dL_law_1567 : decode cL_law 1567 = .ok (.iaload, 1) := by decide +kernel
theorem dL_law_1568 : decode cL_law 1568 = .ok (.aload_n 3, 1) := by decide +kernel
theorem dL_law_1569 : decode cL_law 1569 = .ok (.invokestatic 166, 3) := by decide +kernel
theorem dL_law_1572 : decode cL_law 1572 = .ok (.istore 5, 2) := by decide +kernel
theorem dL_law_1574 : decode cL_law 1574 = .ok (.aload_n 2, 1) := by decide +kernel
theorem dL_law_1575 : decode cL_law 1575 = .ok (.aload_n 0, 1) := by decide +kernel
theorem dL_law_1576 : decode cL_law 1576 = .ok (.iload 4, 2) := by decide +kernel
theorem dL_law_1578 : decode cL_law 1578 = .ok (.iconst 1, 1) := by decide +kernel
theorem dL_law_1579 : decode cL_law 1579 = .ok (.iadd, 1) := by decide +kernel
theorem dL_law_1580 : decode cL_law 1580 = .ok (.iaload, 1) := by decide +kernel
theorem dL_law_1581 : decode cL_law 1581 = .ok (.aload_n 0, 1) := by decide +kernel
theorem dL_law_1582 : decode cL_law 1582 = .ok (.iload 4, 2) := by decide +kernel
theorem dL_law_1584 : decode cL_law 1584 = .ok (.iconst 2, 1) := by decide +kernel
theorem dL_law_1585 : decode cL_law 1585 = .ok (.iadd, 1) := by decide +kernel
theorem dL_law_1586 : decode cL_law 1586 = .ok (.iaload, 1) := by decide +kernel
theorem dL_law_1587 : decode cL_law 1587 = .ok (.invokevirtual 168, 3) := by decide +kernel
theorem dL_law_1590 : decode cL_law 1590 = .ok (.istore 6, 2) := by decide +kernel
theorem dL_law_1592 : decode cL_law 1592 = .ok (.aload_n 2, 1) := by decide +kernel
theorem dL_law_1593 : decode cL_law 1593 = .ok (.invokevirtual 89, 3) := by decide +kernel
theorem dL_law_1596 : decode cL_law 1596 = .ok (.iload 5, 2) := by decide +kernel
theorem dL_law_1598 : decode cL_law 1598 = .ok (.if_icmp .eq 5, 3) := by decide +kernel
theorem dL_law_1601 : decode cL_law 1601 = .ok (.iconst 0, 1) := by decide +kernel
theorem dL_law_1602 : decode cL_law 1602 = .ok (.ireturn, 1) := by decide +kernel
theorem dL_law_1603 : decode cL_law 1603 = .ok (.iload 5, 2) := by decide +kernel
theorem dL_law_1605 : decode cL_law 1605 = .ok (.ifCond .ne 15, 3) := by decide +kernel
theorem dL_law_1608 : decode cL_law 1608 = .ok (.aload_n 3, 1) := by decide +kernel
theorem dL_law_1609 : decode cL_law 1609 = .ok (.iconst 0, 1) := by decide +kernel
theorem dL_law_1610 : decode cL_law 1610 = .ok (.laload, 1) := by decide +kernel
theorem dL_law_1611 : decode cL_law 1611 = .ok (.iload 6, 2) := by decide +kernel
theorem dL_law_1613 : decode cL_law 1613 = .ok (.i2l, 1) := by decide +kernel
theorem dL_law_1614 : decode cL_law 1614 = .ok (.lcmp, 1) := by decide +kernel
theorem dL_law_1615 : decode cL_law 1615 = .ok (.ifCond .eq 5, 3) := by decide +kernel
theorem dL_law_1618 : decode cL_law 1618 = .ok (.iconst 0, 1) := by decide +kernel
theorem dL_law_1619 : decode cL_law 1619 = .ok (.ireturn, 1) := by decide +kernel
theorem dL_law_1620 : decode cL_law 1620 = .ok (.goto 98, 3) := by decide +kernel
theorem dL_law_1623 : decode cL_law 1623 = .ok (.aload_n 1, 1) := by decide +kernel
theorem dL_law_1624 : decode cL_law 1624 = .ok (.invokevirtual 169, 3) := by decide +kernel
theorem dL_law_1627 : decode cL_law 1627 = .ok (.aload_n 2, 1) := by decide +kernel
theorem dL_law_1628 : decode cL_law 1628 = .ok (.invokevirtual 172, 3) := by decide +kernel
theorem dL_law_1631 : decode cL_law 1631 = .ok (.if_icmp .eq 87, 3) := by decide +kernel
theorem dL_law_1634 : decode cL_law 1634 = .ok (.iconst 0, 1) := by decide +kernel
theorem dL_law_1635 : decode cL_law 1635 = .ok (.ireturn, 1) := by decide +kernel
theorem dL_law_1636 : decode cL_law 1636 = .ok (.aload_n 1, 1) := by decide +kernel
theorem dL_law_1637 : decode cL_law 1637 = .ok (.aload_n 0, 1) := by decide +kernel
theorem dL_law_1638 : decode cL_law 1638 = .ok (.iload 4, 2) := by decide +kernel
theorem dL_law_1640 : decode cL_law 1640 = .ok (.iconst 1, 1) := by decide +kernel
theorem dL_law_1641 : decode cL_law 1641 = .ok (.iadd, 1) := by decide +kernel
theorem dL_law_1642 : decode cL_law 1642 = .ok (.iaload, 1) := by decide +kernel
theorem dL_law_1643 : decode cL_law 1643 = .ok (.aload_n 3, 1) := by decide +kernel
theorem dL_law_1644 : decode cL_law 1644 = .ok (.invokestatic 173, 3) := by decide +kernel
theorem dL_law_1647 : decode cL_law 1647 = .ok (.istore 5, 2) := by decide +kernel
theorem dL_law_1649 : decode cL_law 1649 = .ok (.aload_n 2, 1) := by decide +kernel
theorem dL_law_1650 : decode cL_law 1650 = .ok (.aload_n 0, 1) := by decide +kernel
theorem dL_law_1651 : decode cL_law 1651 = .ok (.iload 4, 2) := by decide +kernel
theorem dL_law_1653 : decode cL_law 1653 = .ok (.iconst 1, 1) := by decide +kernel
theorem dL_law_1654 : decode cL_law 1654 = .ok (.iadd, 1) := by decide +kernel
theorem dL_law_1655 : decode cL_law 1655 = .ok (.iaload, 1) := by decide +kernel
theorem dL_law_1656 : decode cL_law 1656 = .ok (.invokevirtual 175, 3) := by decide +kernel
theorem dL_law_1659 : decode cL_law 1659 = .ok (.istore 6, 2) := by decide +kernel
theorem dL_law_1661 : decode cL_law 1661 = .ok (.aload_n 2, 1) := by decide +kernel
theorem dL_law_1662 : decode cL_law 1662 = .ok (.invokevirtual 89, 3) := by decide +kernel
theorem dL_law_1665 : decode cL_law 1665 = .ok (.iload 5, 2) := by decide +kernel
theorem dL_law_1667 : decode cL_law 1667 = .ok (.if_icmp .eq 5, 3) := by decide +kernel
theorem dL_law_1670 : decode cL_law 1670 = .ok (.iconst 0, 1) := by decide +kernel
theorem dL_law_1671 : decode cL_law 1671 = .ok (.ireturn, 1) := by decide +kernel
theorem dL_law_1672 : decode cL_law 1672 = .ok (.iload 5, 2) := by decide +kernel
theorem dL_law_1674 : decode cL_law 1674 = .ok (.ifCond .ne 15, 3) := by decide +kernel
theorem dL_law_1677 : decode cL_law 1677 = .ok (.aload_n 3, 1) := by decide +kernel
theorem dL_law_1678 : decode cL_law 1678 = .ok (.iconst 0, 1) := by decide +kernel
theorem dL_law_1679 : decode cL_law 1679 = .ok (.laload, 1) := by decide +kernel
theorem dL_law_1680 : decode cL_law 1680 = .ok (.iload 6, 2) := by decide +kernel
theorem dL_law_1682 : decode cL_law 1682 = .ok (.i2l, 1) := by decide +kernel
theorem dL_law_1683 : decode cL_law 1683 = .ok (.lcmp, 1) := by decide +kernel
theorem dL_law_1684 : decode cL_law 1684 = .ok (.ifCond .eq 5, 3) := by decide +kernel
theorem dL_law_1687 : decode cL_law 1687 = .ok (.iconst 0, 1) := by decide +kernel
theorem dL_law_1688 : decode cL_law 1688 = .ok (.ireturn, 1) := by decide +kernel
theorem dL_law_1689 : decode cL_law 1689 = .ok (.goto 29, 3) := by decide +kernel
theorem dL_law_1692 : decode cL_law 1692 = .ok (.aload_n 1, 1) := by decide +kernel
theorem dL_law_1693 : decode cL_law 1693 = .ok (.invokevirtual 176, 3) := by decide +kernel
theorem dL_law_1696 : decode cL_law 1696 = .ok (.aload_n 2, 1) := by decide +kernel
theorem dL_law_1697 : decode cL_law 1697 = .ok (.invokevirtual 179, 3) := by decide +kernel
theorem dL_law_1700 : decode cL_law 1700 = .ok (.if_icmp .eq 18, 3) := by decide +kernel
theorem dL_law_1703 : decode cL_law 1703 = .ok (.iconst 0, 1) := by decide +kernel
theorem dL_law_1704 : decode cL_law 1704 = .ok (.ireturn, 1) := by decide +kernel
theorem dL_law_1705 : decode cL_law 1705 = .ok (.aload_n 1, 1) := by decide +kernel
theorem dL_law_1706 : decode cL_law 1706 = .ok (.invokevirtual 180, 3) := by decide +kernel
theorem dL_law_1709 : decode cL_law 1709 = .ok (.aload_n 2, 1) := by decide +kernel
theorem dL_law_1710 : decode cL_law 1710 = .ok (.invokevirtual 183, 3) := by decide +kernel
theorem dL_law_1713 : decode cL_law 1713 = .ok (.if_icmp .eq 5, 3) := by decide +kernel
theorem dL_law_1716 : decode cL_law 1716 = .ok (.iconst 0, 1) := by decide +kernel
theorem dL_law_1717 : decode cL_law 1717 = .ok (.ireturn, 1) := by decide +kernel
theorem dL_law_1718 : decode cL_law 1718 = .ok (.iinc 4 7, 3) := by decide +kernel
theorem dL_law_1721 : decode cL_law 1721 = .ok (.goto (-1698), 3) := by decide +kernel
theorem dL_law_1724 : decode cL_law 1724 = .ok (.iconst 1, 1) := by decide +kernel
theorem dL_law_1725 : decode cL_law 1725 = .ok (.ireturn, 1) := by decide +kernel
end
section
/-! THE ABSTRACT HEAP: objects by names (kind, number), their ints by (field, owner, place); what of it is on the machine's heap; the walk of a method over it. -/
-- values: an int, a long, or a reference to a named cell
abbrev pa_Nm : Type := Nat × Nat
abbrev pa_V : Type := Int32 ⊕ (Int64 ⊕ Option (Nat × Nat))
abbrev pv_i (x : Int32) : pa_V := Sum.inl x
abbrev pv_l (x : Int64) : pa_V := Sum.inr (Sum.inl x)
abbrev pv_r (r : Option (Nat × Nat)) : pa_V := Sum.inr (Sum.inr r)
abbrev pv_o (k i : Nat) : pa_V := Sum.inr (Sum.inr (some (k, i)))
def pa_tr (ad : pa_Nm → Nat) : pa_V → Value
  | .inl x => .int x
  | .inr (.inl x) => .long x
  | .inr (.inr none) => .null
  | .inr (.inr (some n)) => .ref (ad n)
theorem pa_tr_i (ad : pa_Nm → Nat) (x : Int32) : pa_tr ad (pv_i x) = .int x := rfl
theorem pa_tr_l (ad : pa_Nm → Nat) (x : Int64) : pa_tr ad (pv_l x) = .long x := rfl
theorem pa_tr_o (ad : pa_Nm → Nat) (n : pa_Nm) : pa_tr ad (pv_r (some n)) = .ref (ad n) := rfl
theorem pa_tr_n (ad : pa_Nm → Nat) : pa_tr ad (pv_r none) = .null := rfl
theorem pa_tr_r (ad : pa_Nm → Nat) (r : Option pa_Nm) : pa_tr ad (pv_r r) = va_rf (r.map ad) := by cases r <;> rfl
/-- the class's ints, the reference's ints, sizes, the law's row of answers -/
abbrev pa_H : Type := (Nat → Nat → Nat → Int32) × ((Nat → Nat → Int32) × ((Nat → Nat) × (Nat → Int64)))
def pa_up (K : Nat → Nat → Nat → Int32) (f o j : Nat) (v : Int32) : Nat → Nat → Nat → Int32 := fun g p q => if g = f ∧ p = o ∧ q = j then v else K g p q
def pa_us (S : Nat → Nat → Int32) (f j : Nat) (v : Int32) : Nat → Nat → Int32 := fun g q => if g = f ∧ q = j then v else S g q
def pa_un (N : Nat → Nat) (k v : Nat) : Nat → Nat := fun j => if j = k then v else N j
/-- a reference's code: below 0 none, else a number of the kind k -/
def pa_rc (k : Nat) (x : Int32) : Option pa_Nm := if x < 0 then none else some (k, x.toNatClampNeg)
/-- the kinds of fields: 0 int, 8 boolean, 2 a Turn or null, 3 a Speaker, 6 a list, 10 int of the reference, 11 boolean of it; rows: 1 ints, 4 Turns, 5 Speakers, 12 ints of the reference, 13 booleans of it -/
def pa_ty (f : Nat) : Nat := [
  0, 0, 0, 0, 8, 0, 0, 2, 1, 1, 4, 4, 1, 1, 99, 99, 99, 99, 99, 99, 99, 99, 99, 99, 99, 99, 99, 99, 99, 99, 99, 99, 99, 99, 99, 99, 99, 99, 99, 99,
  0, 0, 0, 99, 99, 99, 99, 99, 99, 99, 99, 99, 99, 99, 99, 99, 99, 99, 99, 99, 99, 99, 99, 99, 99, 99, 99, 99, 99, 99, 99, 99, 99, 99, 99, 99, 99, 99, 99, 99,
  3, 0, 0, 0, 0, 0, 0, 0, 0, 0, 8, 1, 1, 99, 99, 99, 99, 99, 99, 99, 99, 99, 99, 99, 99, 99, 99, 99, 99, 99, 99, 99, 99, 99, 99, 99, 99, 99, 99, 99,
  5, 1, 6, 6, 6, 8, 0, 0, 0, 0, 99, 99, 99, 99, 99, 99, 99, 99, 99, 99, 99, 99, 99, 99, 99, 99, 99, 99, 99, 99, 99, 99, 99, 99, 99, 99, 99, 99, 99, 99,
  10, 11, 12, 12, 12, 13, 12, 12, 12, 12, 12, 12, 12, 12, 10, 10, 10, 10, 12, 12, 12, 12, 12, 12, 12, 12, 12, 13, 12, 12, 12, 10, 12, 13, 13, 10, 99, 99, 99, 99].getD (f - 40) 99
/-- how long the rows are -/
def pa_ln (f : Nat) : Nat := [
  0, 0, 0, 0, 0, 0, 0, 0, 10, 10, 10, 10, 10, 4, 0, 0, 0, 0, 0, 0, 0, 0, 0, 0, 0, 0, 0, 0, 0, 0, 0, 0, 0, 0, 0, 0, 0, 0, 0, 0,
  0, 0, 0, 0, 0, 0, 0, 0, 0, 0, 0, 0, 0, 0, 0, 0, 0, 0, 0, 0, 0, 0, 0, 0, 0, 0, 0, 0, 0, 0, 0, 0, 0, 0, 0, 0, 0, 0, 0, 0,
  0, 0, 0, 0, 0, 0, 0, 0, 0, 0, 0, 4, 4, 0, 0, 0, 0, 0, 0, 0, 0, 0, 0, 0, 0, 0, 0, 0, 0, 0, 0, 0, 0, 0, 0, 0, 0, 0, 0, 0,
  4, 8, 0, 0, 0, 0, 0, 0, 0, 0, 0, 0, 0, 0, 0, 0, 0, 0, 0, 0, 0, 0, 0, 0, 0, 0, 0, 0, 0, 0, 0, 0, 0, 0, 0, 0, 0, 0, 0, 0,
  0, 0, 4, 4, 4, 4, 4, 40, 40, 40, 40, 40, 4, 8, 0, 0, 0, 0, 100, 100, 100, 100, 100, 100, 100, 100, 100, 100, 400, 400, 4, 0, 6, 160, 400, 0, 0, 0, 0, 0].getD (f - 40) 0
/-- the class tables' numbers, the array classes, where the made cells begin, the empty row that all new lists share -/
abbrev pa_G : Type := va_G × ((Nat → ClassId) × (Nat × Nat))
def pa_tys (G : pa_G) : List (ClassId × FieldType) := [(G.2.1 0, .int), (G.2.1 1, .boolean), (G.2.1 2, .object "ParleyRoom$Turn"), (G.2.1 3, .object "ParleyRoom$Speaker"), (G.2.1 4, .object "java/lang/Object"), (G.2.1 5, .long)]
abbrev pa_rw (f : Nat → Option Nat) : (Nat → Int32) ⊕ (Nat → Int64) ⊕ (Nat → UInt32) ⊕ (Nat → UInt64) ⊕ (Nat → Option Nat) := .inr (.inr (.inr (.inr f)))
/-- what a field of the object i holds -/
def pa_fv (ad : pa_Nm → Nat) (h : pa_H) (f i : Nat) : Value :=
  if pa_ty f = 0 ∨ pa_ty f = 8 then .int (h.1 f i 0) else
  if pa_ty f = 2 then va_rf ((pa_rc 3 (h.1 f i 0)).map ad) else
  if pa_ty f = 3 then .ref (ad (1, (h.1 f i 0).toNatClampNeg)) else
  if pa_ty f = 6 then .ref (ad (0, f - 162)) else
  if pa_ty f = 10 ∨ pa_ty f = 11 then .int (h.2.1 f 0) else .ref (ad (100 + f, i))
/-- what a row holds -/
def pa_av (ad : pa_Nm → Nat) (h : pa_H) (f i : Nat) : (Nat → Int32) ⊕ (Nat → Int64) ⊕ (Nat → UInt32) ⊕ (Nat → UInt64) ⊕ (Nat → Option Nat) :=
  if pa_ty f = 1 then .inl (h.1 f i) else
  if pa_ty f = 4 then pa_rw (fun j => (pa_rc 3 (h.1 f i j)).map ad) else
  if pa_ty f = 5 then pa_rw (fun j => some (ad (1, j))) else .inl (h.2.1 f)
def pa_ac (f : Nat) : Nat := if pa_ty f = 4 then 2 else if pa_ty f = 5 then 3 else if pa_ty f = 13 then 1 else 0
/-- the element of a list -/
def pa_le (h : pa_H) (l j : Nat) : pa_Nm := if l = 0 then (3, j) else if l = 1 then (3, (h.1 163 0 j).toNatClampNeg) else (2, j)
def pa_fs (ad : pa_Nm → Nat) (h : pa_H) (k i n : Nat) : List Value := (List.range n).map (fun j => pa_fv ad h (40 * k + j) i)
def pa_nf (k : Nat) : Nat := [3, 14, 3, 13, 10, 36].getD k 0
/-- the cell of a name -/
def pa_ce (G : pa_G) (ad : pa_Nm → Nat) (h : pa_H) (n : pa_Nm) : va_E :=
  if n.1 = 0 then .inr (0, [.int (h.1 0 n.2 0), if h.2.2.1 (5 + n.2) = 0 then .ref G.2.2.2 else .ref (ad (8, n.2)), .int (nI (h.2.2.1 (2 + n.2)))]) else
  if n.1 < 6 then .inr (n.1, pa_fs ad h n.1 n.2 (pa_nf n.1)) else
  if n.1 = 6 then .inr (3, [.null, .int 0, .int 0, .int 0, .int 0, .int 0, .int 0, .int 0, .int 0, .int 0, .int 0, .null, .null]) else
  if n.1 = 7 then .inr (2, [.int 0, .int 0, .int 0]) else
  if n.1 = 8 then .inl (G.2.1 4, h.2.2.1 (5 + n.2), pa_rw (fun j => if j < h.2.2.1 (2 + n.2) then some (ad (pa_le h n.2 j)) else none)) else
  if n.1 = 9 then .inl (G.2.1 5, 1, .inr (.inl h.2.2.2)) else
  .inl (G.2.1 (pa_ac (n.1 - 100)), pa_ln (n.1 - 100), pa_av ad h (n.1 - 100) n.2)
/-- the names in use -/
def pa_lo (N : Nat → Nat) (k i : Nat) : Prop :=
  if k = 1 then i < 4 else if k = 2 then i < N 1 else if k = 3 then i < N 0 else if k = 4 ∨ k = 5 then i = 0 else False
def pa_lv (N : Nat → Nat) (n : pa_Nm) : Prop :=
  if n.1 = 0 then n.2 < 3 else
  if n.1 < 6 then pa_lo N n.1 n.2 else
  if n.1 = 6 then n.2 = 0 ∧ N 8 = 1 else
  if n.1 = 7 then n.2 = 0 ∧ N 9 = 1 else
  if n.1 = 8 then n.2 < 3 ∧ N (5 + n.2) ≠ 0 else
  if n.1 = 9 then n.2 = 0 else
  pa_ln (n.1 - 100) ≠ 0 ∧ 100 ≤ n.1 ∧ pa_lo N ((n.1 - 100) / 40) n.2
/-- the machine's heap holds the abstract one -/
def pa_R (G : pa_G) (ad : pa_Nm → Nat) (h : pa_H) (H : Heap) : Prop :=
  (∀ n, pa_lv h.2.2.1 n → va_at G.1 vwCl (ad n, pa_ce G ad h n) H) ∧ (∀ n m, pa_lv h.2.2.1 n → pa_lv h.2.2.1 m → ad n = ad m → n = m) ∧ (∀ n, pa_lv h.2.2.1 n → G.2.2.1 ≤ ad n) ∧
  H[G.2.2.2]? = some (vp_cell (G.2.1 4) (0, pa_rw (fun _ => none))) ∧ G.2.2.2 < G.2.2.1 ∧ G.2.2.1 ≤ H.size
def pa_A (G : pa_G) : Nat → Prop := fun q => G.2.2.1 ≤ q
/-- two namings agree on the names in use (but the lists' data rows, which growing replaces) -/
def pa_ag (h : pa_H) (ad ad' : pa_Nm → Nat) : Prop := ∀ n, n.1 ≠ 8 → pa_lv h.2.2.1 n → ad' n = ad n
theorem pa_ag_rf (h : pa_H) (ad : pa_Nm → Nat) : pa_ag h ad ad := fun _ _ _ => rfl
-- the locals
def pa_c1 : pa_V → Prop | .inr (.inl _) => False | _ => True
def pa_Lo (ad : pa_Nm → Nat) (ls : Array Slot) (nL : Nat) (lo : List (Option pa_V)) : Prop :=
  ls.size = nL ∧ lv_wf ls ∧ ∀ (j : Nat) (v : pa_V), lo[j]? = some (some v) → ls[j]? = some (.val (pa_tr ad v)) ∧ pa_c1 v
theorem pa_c1_cat {ad : pa_Nm → Nat} : ∀ {v : pa_V}, pa_c1 v → (pa_tr ad v).category = 1
  | .inl _, _ => rfl
  | .inr (.inl _), h => h.elim
  | .inr (.inr none), _ => rfl
  | .inr (.inr (some _)), _ => rfl
theorem pa_Lo_set {ad : pa_Nm → Nat} {ls : Array Slot} {nL : Nat} {lo : List (Option pa_V)} {i : Nat} {v : pa_V} (h : pa_Lo ad ls nL lo) (hi : i < nL) (hc : pa_c1 v) :
    ∃ ls', storeLocals ls i (pa_tr ad v) = some ls' ∧ pa_Lo ad ls' nL (lo.set i (some v)) := by
  obtain ⟨h1, h2, h3⟩ := h
  have hcat := pa_c1_cat (ad := ad) hc
  obtain ⟨ls', e', g1, g2, g3⟩ := lv_store1 (l := []) ⟨h1, h2, fun q hq => by cases hq⟩ hi hcat
  refine ⟨ls', e', g1, g2, fun j w hw => ?_⟩
  by_cases hj : j = i
  · subst hj
    rw [List.getElem?_set] at hw
    simp only [if_true] at hw
    split at hw
    · cases hw
      exact ⟨g3 _ List.mem_cons_self, hc⟩
    · cases hw
  · rw [List.getElem?_set_ne (fun q => hj q.symm)] at hw
    obtain ⟨k1, k2⟩ := h3 j w hw
    have hcw := pa_c1_cat (ad := ad) k2
    obtain ⟨ls2, e2, -, -, f3⟩ := lv_store1 (l := [(j, pa_tr ad w)]) ⟨h1, h2, fun q hq => by rw [List.mem_singleton.mp hq]; exact k1⟩ hi hcat
    cases e'.symm.trans e2
    refine ⟨f3 (j, pa_tr ad w) (List.mem_cons_of_mem _ ?_), k2⟩
    simp [hj, hcw]
theorem pa_Lo_entry {ad : pa_Nm → Nat} : ∀ (av : List pa_V) (nL : Nat), (∀ v ∈ av, pa_c1 v) → (lg_sl (av.map (pa_tr ad))).length ≤ nL →
    pa_Lo ad ((lg_sl (av.map (pa_tr ad)) ++ List.replicate (nL - (lg_sl (av.map (pa_tr ad))).length) Slot.unset).toArray) nL (av.map some) := by
  intro av nL hc hl
  obtain ⟨h1, h2, h3⟩ := lv_entry (av.map (pa_tr ad)) hl
  refine ⟨h1, h2, fun j v hv => ?_⟩
  have key : ∀ (vs : List pa_V), (∀ v ∈ vs, pa_c1 v) → ∀ (b j : Nat) (v : pa_V), (vs.map some)[j]? = some (some v) → (b + j, pa_tr ad v) ∈ lv_args b (vs.map (pa_tr ad)) ∧ pa_c1 v := by
    intro vs
    induction vs with
    | nil => intro _ b j v h; simp at h
    | cons w vs ih =>
      intro hv b j v h
      cases j with
      | zero =>
        simp at h
        subst h
        exact ⟨by simp [lv_args], hv _ List.mem_cons_self⟩
      | succ j =>
        have hw : (pa_tr ad w).category = 1 := pa_c1_cat (hv _ List.mem_cons_self)
        obtain ⟨a1, a2⟩ := ih (fun x hx => hv x (List.mem_cons_of_mem _ hx)) (b + 1) j v (by simpa using h)
        refine ⟨?_, a2⟩
        simp only [List.map_cons, lv_args, hw]
        rw [show b + (j + 1) = b + 1 + j by omega]
        exact List.mem_cons_of_mem _ a1
  obtain ⟨a1, a2⟩ := key av hc 0 j v hv
  rw [Nat.zero_add] at a1
  exact ⟨h3 _ a1, a2⟩
-- the heap predicate under writes
theorem pa_ce_up {G : pa_G} {ad : pa_Nm → Nat} {h : pa_H} {f i j : Nat} {v : Int32} {n : pa_Nm} (hf : 40 ≤ f) (h0 : pa_ty f = 0 ∨ pa_ty f = 8 ∨ pa_ty f = 2 ∨ pa_ty f = 3) (hn : n ≠ (f / 40, i)) (h163 : f ≠ 163) :
    pa_ce G ad (pa_up h.1 f i j v, h.2) n = pa_ce G ad h n := by
  obtain ⟨k, o⟩ := n
  have hfv : ∀ g, g < 240 → 40 * k ≤ g → g < 40 * k + 40 → pa_fv ad (pa_up h.1 f i j v, h.2) g o = pa_fv ad h g o := by
    intro g _ g1 g2
    have : ¬ (g = f ∧ o = i) := fun q => hn (by
      have : k = f / 40 := by omega
      rw [this, q.2])
    unfold pa_fv
    have e0 : ∀ q, (pa_up h.1 f i j v) g o q = h.1 g o q := fun q => by
      unfold pa_up
      rw [if_neg (fun z => this ⟨z.1, z.2.1⟩)]
    simp only [e0]
  have hfs : ∀ n, n ≤ 40 → k < 6 → pa_fs ad (pa_up h.1 f i j v, h.2) k o n = pa_fs ad h k o n := by
    intro n hn9 hk6
    unfold pa_fs
    refine List.map_congr_left fun x hx => ?_
    have hx9 := List.mem_range.mp hx
    exact hfv _ (by omega) (by omega) (by omega)
  have hnf : k < 6 → pa_nf k ≤ 40 := fun hk => by
    rcases (show k = 0 ∨ k = 1 ∨ k = 2 ∨ k = 3 ∨ k = 4 ∨ k = 5 by omega) with rfl | rfl | rfl | rfl | rfl | rfl <;> decide
  unfold pa_ce
  dsimp only
  by_cases c0 : k = 0
  · subst c0
    simp only [if_true]
    have e0 : (pa_up h.1 f i j v) 0 o 0 = h.1 0 o 0 := by
      unfold pa_up
      rw [if_neg (fun z => by omega)]
    rw [e0]
  rw [if_neg c0, if_neg c0]
  by_cases c1 : k < 6
  · rw [if_pos c1, if_pos c1, hfs _ (hnf c1) c1]
  rw [if_neg c1, if_neg c1]
  by_cases c2 : k = 6
  · rw [if_pos c2, if_pos c2]
  rw [if_neg c2, if_neg c2]
  by_cases c3 : k = 7
  · rw [if_pos c3, if_pos c3]
  rw [if_neg c3, if_neg c3]
  by_cases c4 : k = 8
  · rw [if_pos c4, if_pos c4]
    have : ∀ l q, pa_le (pa_up h.1 f i j v, h.2) l q = pa_le h l q := fun l q => by
      unfold pa_le
      have e0 : (pa_up h.1 f i j v) 163 0 q = h.1 163 0 q := by
        unfold pa_up
        rw [if_neg (fun z => h163 z.1.symm)]
      dsimp only
      rw [e0]
    simp only [this]
  rw [if_neg c4, if_neg c4]
  by_cases c5 : k = 9
  · rw [if_pos c5, if_pos c5]
  rw [if_neg c5, if_neg c5]
  have : pa_av ad (pa_up h.1 f i j v, h.2) (k - 100) o = pa_av ad h (k - 100) o := by
    by_cases cf : k - 100 = f
    · unfold pa_av
      rw [cf]
      have q1 : pa_ty f ≠ 1 := by omega
      have q4 : pa_ty f ≠ 4 := by omega
      have q5 : pa_ty f ≠ 5 := by omega
      simp only [if_neg q1, if_neg q4, if_neg q5]
    · unfold pa_av
      have e0 : ∀ q, (pa_up h.1 f i j v) (k - 100) o q = h.1 (k - 100) o q := fun q => by
        unfold pa_up
        rw [if_neg (fun z => cf z.1)]
      have e1 : (pa_up h.1 f i j v) (k - 100) o = h.1 (k - 100) o := funext e0
      dsimp only
      simp only [e0, e1]
  rw [this]
/-- a row of the class is written -/
theorem pa_ce_ur {G : pa_G} {ad : pa_Nm → Nat} {h : pa_H} {f i j : Nat} {v : Int32} {n : pa_Nm} (hf : 40 ≤ f) (h0 : pa_ty f = 1 ∨ pa_ty f = 4) (hn : n ≠ (100 + f, i)) (hk : n.1 < 10 ∨ 100 ≤ n.1) (h163 : f ≠ 163) :
    pa_ce G ad (pa_up h.1 f i j v, h.2) n = pa_ce G ad h n := by
  obtain ⟨k, o⟩ := n
  dsimp only at hk
  have hfv : ∀ g, pa_fv ad (pa_up h.1 f i j v, h.2) g o = pa_fv ad h g o := by
    intro g
    by_cases cf : g = f
    · unfold pa_fv
      rw [cf]
      have z1 : ¬ (pa_ty f = 0 ∨ pa_ty f = 8) := by omega
      have z2 : ¬ pa_ty f = 2 := by omega
      have z3 : ¬ pa_ty f = 3 := by omega
      have z4 : ¬ pa_ty f = 6 := by omega
      have z5 : ¬ (pa_ty f = 10 ∨ pa_ty f = 11) := by omega
      simp only [if_neg z1, if_neg z2, if_neg z3, if_neg z4, if_neg z5]
    · unfold pa_fv
      have e0 : ∀ q, (pa_up h.1 f i j v) g o q = h.1 g o q := fun q => by
        unfold pa_up
        rw [if_neg (fun z => cf z.1)]
      simp only [e0]
  have hfs : ∀ n, pa_fs ad (pa_up h.1 f i j v, h.2) k o n = pa_fs ad h k o n := by
    intro n
    unfold pa_fs
    exact List.map_congr_left fun x hx => hfv _
  unfold pa_ce
  dsimp only
  by_cases c0 : k = 0
  · subst c0
    simp only [if_true]
    have e0 : (pa_up h.1 f i j v) 0 o 0 = h.1 0 o 0 := by
      unfold pa_up
      rw [if_neg (fun z => by omega)]
    rw [e0]
  rw [if_neg c0, if_neg c0]
  by_cases c1 : k < 6
  · rw [if_pos c1, if_pos c1, hfs]
  rw [if_neg c1, if_neg c1]
  by_cases c2 : k = 6
  · rw [if_pos c2, if_pos c2]
  rw [if_neg c2, if_neg c2]
  by_cases c3 : k = 7
  · rw [if_pos c3, if_pos c3]
  rw [if_neg c3, if_neg c3]
  by_cases c4 : k = 8
  · rw [if_pos c4, if_pos c4]
    have : ∀ l q, pa_le (pa_up h.1 f i j v, h.2) l q = pa_le h l q := fun l q => by
      unfold pa_le
      have e0 : (pa_up h.1 f i j v) 163 0 q = h.1 163 0 q := by
        unfold pa_up
        rw [if_neg (fun z => h163 z.1.symm)]
      dsimp only
      rw [e0]
    simp only [this]
  rw [if_neg c4, if_neg c4]
  by_cases c5 : k = 9
  · rw [if_pos c5, if_pos c5]
  rw [if_neg c5, if_neg c5]
  have : pa_av ad (pa_up h.1 f i j v, h.2) (k - 100) o = pa_av ad h (k - 100) o := by
    have cz : ¬ (k - 100 = f ∧ o = i) := fun z => hn (by
      have : k = 100 + f := by omega
      rw [this, z.2])
    unfold pa_av
    have e0 : ∀ q, (pa_up h.1 f i j v) (k - 100) o q = h.1 (k - 100) o q := fun q => by
      unfold pa_up
      rw [if_neg (fun z => cz ⟨z.1, z.2.1⟩)]
    have e1 : (pa_up h.1 f i j v) (k - 100) o = h.1 (k - 100) o := funext e0
    dsimp only
    simp only [e0, e1]
  rw [this]
/-- an int of the reference is written -/
theorem pa_ce_us {G : pa_G} {ad : pa_Nm → Nat} {h : pa_H} {f j : Nat} {v : Int32} {n : pa_Nm} (hf : 200 ≤ f ∧ f < 240) (hn : n ≠ (5, 0) ∨ pa_ty f = 12 ∨ pa_ty f = 13) (hl : pa_lv h.2.2.1 n) (h0 : pa_ty f = 10 ∨ pa_ty f = 11 ∨ n ≠ (100 + f, 0)) :
    pa_ce G ad (h.1, pa_us h.2.1 f j v, h.2.2) n = pa_ce G ad h n := by
  obtain ⟨k, o⟩ := n
  have hfv : ∀ g, g < 240 → (pa_ty f = 12 ∨ pa_ty f = 13 ∨ g < 200) → pa_fv ad (h.1, pa_us h.2.1 f j v, h.2.2) g o = pa_fv ad h g o := by
    intro g _ hg
    unfold pa_fv
    by_cases cf : g = f
    · rw [cf]
      have q : ¬ (pa_ty f = 10 ∨ pa_ty f = 11) := by omega
      rw [if_neg q, if_neg q]
    · have e0 : ∀ q, (pa_us h.2.1 f j v) g q = h.2.1 g q := fun q => by
        unfold pa_us
        rw [if_neg (fun z => cf z.1)]
      simp only [e0]
  have hnf : k < 6 → pa_nf k ≤ 40 := fun hk => by
    rcases (show k = 0 ∨ k = 1 ∨ k = 2 ∨ k = 3 ∨ k = 4 ∨ k = 5 by omega) with rfl | rfl | rfl | rfl | rfl | rfl <;> decide
  unfold pa_ce
  dsimp only
  by_cases c0 : k = 0
  · rw [if_pos c0, if_pos c0]
  rw [if_neg c0, if_neg c0]
  by_cases c1 : k < 6
  · rw [if_pos c1, if_pos c1]
    have : pa_fs ad (h.1, pa_us h.2.1 f j v, h.2.2) k o (pa_nf k) = pa_fs ad h k o (pa_nf k) := by
      unfold pa_fs
      refine List.map_congr_left fun x hx => ?_
      have hx9 := List.mem_range.mp hx
      have hb := hnf c1
      refine hfv _ (by omega) ?_
      rcases hn with hn | hn | hn
      · right; right
        have : k ≠ 5 := fun q => by
          subst q
          have ho : o = 0 := by simpa [pa_lv, pa_lo] using hl
          exact hn (by rw [ho])
        omega
      · exact Or.inl hn
      · exact Or.inr (Or.inl hn)
    rw [this]
  rw [if_neg c1, if_neg c1]
  by_cases c2 : k = 6
  · rw [if_pos c2, if_pos c2]
  rw [if_neg c2, if_neg c2]
  by_cases c3 : k = 7
  · rw [if_pos c3, if_pos c3]
  rw [if_neg c3, if_neg c3]
  by_cases c4 : k = 8
  · rw [if_pos c4, if_pos c4]
    rfl
  rw [if_neg c4, if_neg c4]
  by_cases c5 : k = 9
  · rw [if_pos c5, if_pos c5]
  rw [if_neg c5, if_neg c5]
  have hl9 : pa_ln (k - 100) ≠ 0 ∧ 100 ≤ k ∧ pa_lo h.2.2.1 ((k - 100) / 40) o := by
    have := hl
    unfold pa_lv at this
    dsimp only at this
    rwa [if_neg c0, if_neg c1, if_neg c2, if_neg c3, if_neg c4, if_neg c5] at this
  have : pa_av ad (h.1, pa_us h.2.1 f j v, h.2.2) (k - 100) o = pa_av ad h (k - 100) o := by
    by_cases cf : k - 100 = f
    · exfalso
      have hd : (k - 100) / 40 = 5 := by omega
      have ho : o = 0 := by
        have := hl9.2.2
        rw [hd] at this
        simpa [pa_lo] using this
      rcases h0 with h0 | h0 | h0
      · have : ∀ x, x < 240 → pa_ty x = 10 → pa_ln x = 0 := by decide +kernel
        exact hl9.1 (by rw [cf]; exact this f hf.2 h0)
      · have : ∀ x, x < 240 → pa_ty x = 11 → pa_ln x = 0 := by decide +kernel
        exact hl9.1 (by rw [cf]; exact this f hf.2 h0)
      · exact h0 (by rw [ho, ← cf]; congr 1; omega)
    · unfold pa_av
      have e0 : (pa_us h.2.1 f j v) (k - 100) = h.2.1 (k - 100) := funext fun q => by
        unfold pa_us
        rw [if_neg (fun z => cf z.1)]
      dsimp only
      simp only [e0]
  rw [this]
/-- where one cell is written, and the others stay -/
theorem pa_R_set {G : pa_G} {ad : pa_Nm → Nat} {h h' : pa_H} {H H1 : Heap} {n : pa_Nm} (hR : pa_R G ad h H) (hN : h'.2.2.1 = h.2.2.1) (hn : pa_lv h.2.2.1 n) (hce : ∀ m, m ≠ n → pa_lv h.2.2.1 m → pa_ce G ad h' m = pa_ce G ad h m)
    (e1 : va_at G.1 vwCl (ad n, pa_ce G ad h' n) H1) (z : H1.size = H.size) (oq : ∀ q : Nat, q ≠ ad n → H1[q]? = H[q]?) : pa_R G ad h' H1 := by
  obtain ⟨r1, r2, r3, r4, r5, r6⟩ := hR
  rw [pa_R, hN]
  refine ⟨fun m hm => ?_, r2, r3, ?_, r5, by omega⟩
  · by_cases c : m = n
    · rw [c]
      exact e1
    · rw [hce m c hm]
      exact (r1 m hm).kept (oq _ (fun q => c (r2 m n hm hn q)))
  · rw [oq _ (fun q => by have := r3 n hn; omega)]
    exact r4
end
section
/-! THE WALK over the abstract heap: a method's contract, and a row an instruction. -/
def pa_wl : List Cond := lw_tbl.filter goodWord
theorem pa_wi {w : Cond} (h : w ∈ lw_tbl) (g : goodWord w = true) : w ∈ pa_wl := List.mem_filter.mpr ⟨h, g⟩
theorem pa_wg {w : Cond} (h : w ∈ pa_wl) : goodWord w = true := (List.mem_filter.mp h).2
/-- a method: its name, its code, its locals, what it answers -/
abbrev pa_Y : Type := MethodName × (ByteArray × (Nat × Option FieldType))
def pa_ws (y : pa_Y) : List Cond := Cond.code y.1 y.2.1 y.2.2.1 y.2.2.2 :: pa_wl
def pa_rm (d mc ms : Nat) : Room := { frames := d, cells := mc, slots := ms, locals := 30 * d }
/-- the texts that the class throws with, by their entries -/
def pa_strs : List (Nat × String) := [(157, "no such turn"), (185, "what is 0 to 8"), (222, "no such question"), (227, "what is 0 to 3"), (241, "no such speaker"), (247, "no such atom"), (249, "no such good"), (254, "an argument is out of its range"), (266, "an argument is not as told of the act"), (55, "it speaks a language that it does not know"), (98, "this turn can not be said now")]
/-- classes that may be taken for others, and that may not -/
def pa_cas : List (String × String) := [("ParleyRoom$Turn", "java/lang/Object"), ("ParleyRoom$Step", "java/lang/Object"), ("java/lang/IndexOutOfBoundsException", "java/lang/IndexOutOfBoundsException"), ("java/lang/IllegalArgumentException", "java/lang/IllegalArgumentException"), ("java/lang/IllegalStateException", "java/lang/IllegalStateException")]
def pa_ncs : List (String × String) := [("java/lang/IllegalArgumentException", "java/lang/IndexOutOfBoundsException"), ("java/lang/IllegalStateException", "java/lang/IndexOutOfBoundsException"), ("java/lang/IllegalStateException", "java/lang/IllegalArgumentException")]
def pa_aos : List String := ["java/lang/Object", "ParleyRoom$Turn", "ParleyRoom$Speaker"]
/-- what the tables say beside the good words: the lists' class object, the texts, casts, arrays of classes -/
def pa_U2 (U : State) : Prop := (∃ mi, va_Mi "[Ljava/lang/Object;" mi U) ∧ va_Dc U ∧ (∀ q ∈ pa_strs, ∃ a, vk_R RX3 q.1 q.2 a U) ∧ (∀ q ∈ pa_cas, va_Nw (.castable q.1 q.2) U) ∧ (∀ q ∈ pa_ncs, va_Nc q.1 q.2 U) ∧ ∀ q ∈ pa_aos, va_AO q U
theorem pa_U2.warm {s U : State} (h : pa_U2 s) (hW : s.WarmedH U.vm) : pa_U2 U := by
  obtain ⟨⟨mi, h4⟩, h5, h6, h7, h8, h9⟩ := h
  refine ⟨⟨mi, va_Mi.moved hW.alike h4⟩, va_Dc.moved hW.alike h5, fun q hq => ?_, fun q hq => va_Nw.warmC hW (h7 q hq), fun q hq => va_Nc.moved hW.alike (h8 q hq), fun q hq => va_AO.moved hW.alike (h9 q hq)⟩
  obtain ⟨a, z⟩ := h6 q hq
  exact ⟨a, vk_R.warm hW z⟩
theorem pa_U2.same {u U : State} (hv : U.vm = u.vm) (h : pa_U2 u) : pa_U2 U := by
  obtain ⟨⟨mi, h4⟩, h5, h6, h7, h8, h9⟩ := h
  have ha : u.vm.Alike U.vm := hv ▸ Vm.Alike.refl u.vm
  refine ⟨⟨mi, va_Mi.moved ha h4⟩, va_Dc.moved ha h5, fun q hq => ?_, fun q hq => va_Nw.same (u := u) rfl hv.symm (h7 q hq), fun q hq => va_Nc.moved ha (h8 q hq), fun q hq => va_AO.moved ha (h9 q hq)⟩
  obtain ⟨a, z⟩ := h6 q hq
  exact ⟨a, vk_R.same hv z⟩
/-- what is the same in every call: the tables, the nest mates' links -/
def pa_U (G : pa_G) (U : State) : Prop := va_K G.1 vwCl (pa_tys G) U ∧ va_Nw (.methodLinkNest RX2 55 yX3_isIn RX3) U ∧ va_Nw (.methodLinkNest RX2 65 yX3_isAtom RX3) U ∧ pa_U2 U
theorem pa_U.warm {G : pa_G} {s U : State} (h : pa_U G s) (hW : s.WarmedH U.vm) : pa_U G U := ⟨va_K.moved hW.alike h.1, va_Nw.warmM hW h.2.1, va_Nw.warmM hW h.2.2.1, h.2.2.2.warm hW⟩
/-- the JDK's statics: the lists' empty row, what a throwable is made with -/
def pa_Zs (G : pa_G) (U : State) (H : Heap) : Prop := va_Z "java/util/ArrayList" "DEFAULTCAPACITY_EMPTY_ELEMENTDATA" "[Ljava/lang/Object;" (.ref G.2.2.2) (pa_A G) U H ∧ vx_Zq Bundle.tN "UNASSIGNED_STACK" Bundle.steD (pa_A G) U H ∧ vx_Zq Bundle.tN "SUPPRESSED_SENTINEL" Bundle.listD (pa_A G) U H
theorem pa_Zs.moved {G : pa_G} {u U : State} {H : Heap} (hvm : u.vm.Alike U.vm) (h : pa_Zs G u H) : pa_Zs G U H := ⟨va_Z.moved hvm h.1, vx_Zq.moved hvm h.2.1, vx_Zq.moved hvm h.2.2⟩
theorem pa_Zs.at {G : pa_G} {s U : State} {H : Heap} {locs : List Loc} (h : pa_Zs G s s.heap) (q : va_S (pa_A G) s.heap H locs) (hU : U.heap = H) (hW : s.WarmedH U.vm) : pa_Zs G U U.heap := by
  rw [hU]
  exact pa_Zs.moved hW.alike ⟨va_Z.kept h.1 q.2.1, vx_Zq.kept h.2.1 q.2.1, vx_Zq.kept h.2.2 q.2.1⟩
def pa_P (G : pa_G) (av : List pa_V) (h : pa_H) (ad : pa_Nm → Nat) : Array Value → State → Prop := fun v U => v = (av.map (pa_tr ad)).toArray ∧ pa_R G ad h U.heap ∧ pa_U G U ∧ pa_Zs G U U.heap
theorem pa_P_bl {G : pa_G} {av : List pa_V} {h : pa_H} {ad : pa_Nm → Nat} : FrameBlind (pa_P G av h ad) := by
  intro a U g mk q
  obtain ⟨q1, q2, ⟨h1, h2, h3, h4⟩, q4⟩ := q
  exact ⟨q1, q2, ⟨va_K.moved (u := U) (U := U.calling g mk a) (Vm.Alike.refl U.vm) h1, va_Nw.same (u := U) rfl rfl h2, va_Nw.same (u := U) rfl rfl h3, pa_U2.same (u := U) rfl h4⟩, pa_Zs.moved (u := U) (U := U.calling g mk a) (Vm.Alike.refl U.vm) q4⟩
/-- the names of the start are in use still, and mean the same cells; al = false: there are no others -/
def pa_an (al : Bool) (h0 : pa_H) (ad0 : pa_Nm → Nat) (h : pa_H) (ad : pa_Nm → Nat) : Prop := pa_ag h0 ad0 ad ∧ (al = false → ad = ad0) ∧ ∀ n, pa_lv h0.2.2.1 n → pa_lv h.2.2.1 n
theorem pa_an_rf (al : Bool) (h : pa_H) (ad : pa_Nm → Nat) : pa_an al h ad h ad := ⟨fun _ _ _ => rfl, fun _ => rfl, fun _ z => z⟩
theorem pa_an_tr {al al' : Bool} {h0 h h' : pa_H} {ad0 ad ad' : pa_Nm → Nat} (q : pa_an al h0 ad0 h ad) (r : pa_an al' h ad h' ad') (hal : al = false → al' = false) : pa_an al h0 ad0 h' ad' :=
  ⟨fun n h8 hn => (r.1 n h8 (q.2.2 n hn)).trans (q.1 n h8 hn), fun z => (r.2.1 (hal z)).trans (q.2.1 z), fun n hn => r.2.2 n (q.2.2 n hn)⟩
/-- the end: al = true: new names may have come; al = false: the names are the same -/
def pa_Q (G : pa_G) (al : Bool) (h : pa_H) (ad : pa_Nm → Nat) (post : Option pa_V → pa_H → Prop) : Array Value → State → Outcome → State → Prop := fun _ st oc t =>
  (∃ (r : Option pa_V) (h' : pa_H) (ad' : pa_Nm → Nat), oc = .returned (r.map (pa_tr ad')) ∧ post r h' ∧ pa_R G ad' h' t.heap ∧ pa_an al h ad h' ad') ∧ va_F (pa_A G) st t
/-- A CONTRACT: with these arguments, over this heap, the method returns, and 'post answer heap' -/
def pa_M (G : pa_G) (l : Launch) (y : pa_Y) (d : Nat) (al : Bool) (av : List pa_V) (h : pa_H) (mc ms : Nat) (post : Option pa_V → pa_H → Prop) : Prop :=
  ∀ ad : pa_Nm → Nat, Met l y.1 (pa_ws y) (pa_rm d mc ms) (pa_P G av h ad) (pa_Q G al h ad post) mc ms (pa_A G)
/-- .. or throws E, the heap as it was -/
def pa_XC (G : pa_G) (h : pa_H) (ad : pa_Nm → Nat) (px : String → Prop) : String → State → State → Prop := fun E st t =>
  px E ∧ (∃ ad' : pa_Nm → Nat, pa_R G ad' h t.heap ∧ pa_an true h ad h ad') ∧ va_F (pa_A G) st t
def pa_MX (G : pa_G) (l : Launch) (y : pa_Y) (d : Nat) (al : Bool) (av : List pa_V) (h : pa_H) (mc ms : Nat) (post : Option pa_V → pa_H → Prop) (px : String → Prop) : Prop :=
  ∀ ad : pa_Nm → Nat, vx_Met l y.1 (pa_ws y) (pa_rm d mc ms) (pa_P G av h ad) (pa_Q G al h ad post) (pa_XC G h ad px) mc ms (pa_A G)
/-- the walk's own things: the machine, the frame, the aim; the start's heap and naming -/
abbrev pa_X : Type := Program × Launch × Env × Room × State × MethodId × Array Value × List Frame × Method × Code × (State → Prop) × pa_H × (pa_Nm → Nat) × Bool
/-- at pc, over the abstract heap h, with these locals and this stack, the walk comes to its aim -/
def pa_w (G : pa_G) (x : pa_X) (nL : Nat) (h : pa_H) (a b pc : Nat) (lo : List (Option pa_V)) (st : List pa_V) : Prop :=
  match x with
  | (p, l, e, R, s, m, args, below, meth, c, Q, h0, ad0, al) => ∀ (ad : pa_Nm → Nat) (H : Heap) (locs : List Loc) (ls : Array Slot), pa_R G ad h H → pa_an al h0 ad0 h ad → va_S (pa_A G) s.heap H locs → pa_Lo ad ls nL lo →
      W p l e R s m args below meth c H locs a b Q (F0 m pc ls (st.map (pa_tr ad)))
/-- what holds during a walk of the code cc of the class own, in a room of d frames -/
def pa_C (G : pa_G) (x : pa_X) (cc : ByteArray) (nL : Nat) (own : String) (d mc ms : Nat) : Prop :=
  match x with
  | (p, _, _, R, s, m, args, _, meth, c, _, _, _, _) => p.tables.exec = Jvm.exec ∧ c.code = cc ∧ c.maxLocals = nL ∧ s.vm.findClass own = some m.cls ∧ (∀ w ∈ pa_wl, w.before args s = true) ∧ pa_U G s ∧ (pa_rm d mc ms).frames ≤ R.frames ∧ (pa_rm d mc ms).locals ≤ R.locals ∧ mc ≤ R.cells ∧ ms ≤ R.slots ∧ meth.locks = false ∧ pa_Zs G s s.heap
section WALK
variable {G : pa_G} {x : pa_X} {cc : ByteArray} {nL : Nat} {own : String} {d mc ms : Nat} {h : pa_H} {a b pc : Nat} {lo : List (Option pa_V)} {st : List pa_V}
theorem pr_iconst (C : pa_C G x cc nL own d mc ms) {n : Int} {v : Int32} (dg : decode cc pc = .ok (.iconst n, 1)) (hv : Int32.ofInt n = v) (k : pa_w G x nL h a b (pc + 1) lo (pv_i v :: st)) : pa_w G x nL h a b pc lo st := by
  obtain ⟨p, l, e, R, s, m, args, below, meth, c, Q, h0, ad0, al⟩ := x
  exact fun ad H locs ls q1 q2 q3 q4 => lv_iconst C.1 C.2.1 dg hv (k ad H locs ls q1 q2 q3 q4)
theorem pr_bipush (C : pa_C G x cc nL own d mc ms) {n : Int} {v : Int32} (dg : decode cc pc = .ok (.bipush n, 2)) (hv : (Int8.ofInt n).toInt32 = v) (k : pa_w G x nL h a b (pc + 2) lo (pv_i v :: st)) : pa_w G x nL h a b pc lo st := by
  obtain ⟨p, l, e, R, s, m, args, below, meth, c, Q, h0, ad0, al⟩ := x
  exact fun ad H locs ls q1 q2 q3 q4 => lv_bipush C.1 C.2.1 dg hv (k ad H locs ls q1 q2 q3 q4)
theorem pr_sipush (C : pa_C G x cc nL own d mc ms) {n : Int} {v : Int32} (dg : decode cc pc = .ok (.sipush n, 3)) (hv : (Int16.ofInt n).toInt32 = v) (k : pa_w G x nL h a b (pc + 3) lo (pv_i v :: st)) : pa_w G x nL h a b pc lo st := by
  obtain ⟨p, l, e, R, s, m, args, below, meth, c, Q, h0, ad0, al⟩ := x
  exact fun ad H locs ls q1 q2 q3 q4 => lv_sipush C.1 C.2.1 dg hv (k ad H locs ls q1 q2 q3 q4)
theorem pr_iload_n (C : pa_C G x cc nL own d mc ms) {k : Fin 4} {v : Int32} (dg : decode cc pc = .ok (.iload_n k, 1)) (hl : lo[(k : Nat)]? = some (some (pv_i v))) (kk : pa_w G x nL h a b (pc + 1) lo (pv_i v :: st)) : pa_w G x nL h a b pc lo st := by
  obtain ⟨p, l, e, R, s, m, args, below, meth, c, Q, h0, ad0, al⟩ := x
  exact fun ad H locs ls q1 q2 q3 q4 => lv_iload_n C.1 C.2.1 dg rfl (q4.2.2 _ _ hl).1 (kk ad H locs ls q1 q2 q3 q4)
theorem pr_iload (C : pa_C G x cc nL own d mc ms) {k : Nat} {v : Int32} (dg : decode cc pc = .ok (.iload k, 2)) (hl : lo[k]? = some (some (pv_i v))) (kk : pa_w G x nL h a b (pc + 2) lo (pv_i v :: st)) : pa_w G x nL h a b pc lo st := by
  obtain ⟨p, l, e, R, s, m, args, below, meth, c, Q, h0, ad0, al⟩ := x
  exact fun ad H locs ls q1 q2 q3 q4 => lv_iload C.1 C.2.1 dg (q4.2.2 _ _ hl).1 (kk ad H locs ls q1 q2 q3 q4)
theorem pr_aload_n0 {p : Program} {l : Launch} {e : Env} {R : Room} {s : State} {m : MethodId} {args : Array Value} {below : List Frame} {meth : Method} {c : Code} {H : Heap} {locs : List Loc} {cells slots : Nat} {Q : State → Prop} {ls : Array Slot} {rest : List Value} (hexec : p.tables.exec = Jvm.exec) (hb : c.code = cc) {k : Fin 4} (hdg : decode cc pc = .ok (.aload_n k, 1)) (hl : ls[(k : Nat)]? = some (.val .null))
    (kk : W p l e R s m args below meth c H locs cells slots Q (F0 m (pc + 1) ls (.null :: rest))) : W p l e R s m args below meth c H locs cells slots Q (F0 m pc ls rest) := by
  intro T hT X
  obtain ⟨t, a, b⟩ := kk T hT X
  refine ⟨t, ?_, b⟩
  jvm_step X.here [X.here.top, hexec, hb, hdg, hl, Value.isRef]
  exact a
theorem pr_aload0 {p : Program} {l : Launch} {e : Env} {R : Room} {s : State} {m : MethodId} {args : Array Value} {below : List Frame} {meth : Method} {c : Code} {H : Heap} {locs : List Loc} {cells slots : Nat} {Q : State → Prop} {ls : Array Slot} {rest : List Value} (hexec : p.tables.exec = Jvm.exec) (hb : c.code = cc) {k : Nat} (hdg : decode cc pc = .ok (.aload k, 2)) (hl : ls[k]? = some (.val .null))
    (kk : W p l e R s m args below meth c H locs cells slots Q (F0 m (pc + 2) ls (.null :: rest))) : W p l e R s m args below meth c H locs cells slots Q (F0 m pc ls rest) := by
  intro T hT X
  obtain ⟨t, a, b⟩ := kk T hT X
  refine ⟨t, ?_, b⟩
  jvm_step X.here [X.here.top, hexec, hb, hdg, hl, Value.isRef]
  exact a
theorem pr_aload_n (C : pa_C G x cc nL own d mc ms) {k : Fin 4} {v : Option pa_Nm} (dg : decode cc pc = .ok (.aload_n k, 1)) (hl : lo[(k : Nat)]? = some (some (pv_r v))) (kk : pa_w G x nL h a b (pc + 1) lo (pv_r v :: st)) : pa_w G x nL h a b pc lo st := by
  obtain ⟨p, l, e, R, s, m, args, below, meth, c, Q, h0, ad0, al⟩ := x
  intro ad H locs ls q1 q2 q3 q4
  have h1 := (q4.2.2 _ _ hl).1
  have h2 := kk ad H locs ls q1 q2 q3 q4
  cases v with
  | none => exact pr_aload_n0 C.1 C.2.1 dg h1 h2
  | some n => exact lv_aload_n C.1 C.2.1 dg rfl h1 h2
theorem pr_aload (C : pa_C G x cc nL own d mc ms) {k : Nat} {v : Option pa_Nm} (dg : decode cc pc = .ok (.aload k, 2)) (hl : lo[k]? = some (some (pv_r v))) (kk : pa_w G x nL h a b (pc + 2) lo (pv_r v :: st)) : pa_w G x nL h a b pc lo st := by
  obtain ⟨p, l, e, R, s, m, args, below, meth, c, Q, h0, ad0, al⟩ := x
  intro ad H locs ls q1 q2 q3 q4
  have h1 := (q4.2.2 _ _ hl).1
  have h2 := kk ad H locs ls q1 q2 q3 q4
  cases v with
  | none => exact pr_aload0 C.1 C.2.1 dg h1 h2
  | some n => exact lv_aload C.1 C.2.1 dg h1 h2
theorem pr_istore_n (C : pa_C G x cc nL own d mc ms) {k : Fin 4} {v : Int32} (dg : decode cc pc = .ok (.istore_n k, 1)) (hn : (k : Nat) < nL) (kk : pa_w G x nL h a b (pc + 1) (lo.set k (some (pv_i v))) st) : pa_w G x nL h a b pc lo (pv_i v :: st) := by
  obtain ⟨p, l, e, R, s, m, args, below, meth, c, Q, h0, ad0, al⟩ := x
  intro ad H locs ls q1 q2 q3 q4
  obtain ⟨ls', e', h'⟩ := pa_Lo_set (v := pv_i v) q4 hn trivial
  intro T hT X
  obtain ⟨t, a1, b1⟩ := kk ad H locs ls' q1 q2 q3 h' T hT X
  refine ⟨t, ?_, b1⟩
  have e2 : storeLocals ls k (.int v) = some ls' := e'
  have hexec := C.1
  have hb := C.2.1
  show Steps p.tables e below (T.setTop (F0 m pc ls (.int v :: st.map (pa_tr ad)))) t
  jvm_step X.here [X.here.top, ↓top_set X.here.top, hexec, hb, dg, e2]
  exact a1
theorem pr_istore (C : pa_C G x cc nL own d mc ms) {k : Nat} {v : Int32} (dg : decode cc pc = .ok (.istore k, 2)) (hn : k < nL) (kk : pa_w G x nL h a b (pc + 2) (lo.set k (some (pv_i v))) st) : pa_w G x nL h a b pc lo (pv_i v :: st) := by
  obtain ⟨p, l, e, R, s, m, args, below, meth, c, Q, h0, ad0, al⟩ := x
  intro ad H locs ls q1 q2 q3 q4
  obtain ⟨ls', e', h'⟩ := pa_Lo_set (v := pv_i v) q4 hn trivial
  intro T hT X
  obtain ⟨t, a1, b1⟩ := kk ad H locs ls' q1 q2 q3 h' T hT X
  refine ⟨t, ?_, b1⟩
  have e2 : storeLocals ls k (.int v) = some ls' := e'
  have hexec := C.1
  have hb := C.2.1
  show Steps p.tables e below (T.setTop (F0 m pc ls (.int v :: st.map (pa_tr ad)))) t
  jvm_step X.here [X.here.top, ↓top_set X.here.top, hexec, hb, dg, e2]
  exact a1
theorem pr_astore_n (C : pa_C G x cc nL own d mc ms) {k : Fin 4} {v : Option pa_Nm} (dg : decode cc pc = .ok (.astore_n k, 1)) (hn : (k : Nat) < nL) (kk : pa_w G x nL h a b (pc + 1) (lo.set k (some (pv_r v))) st) : pa_w G x nL h a b pc lo (pv_r v :: st) := by
  obtain ⟨p, l, e, R, s, m, args, below, meth, c, Q, h0, ad0, al⟩ := x
  intro ad H locs ls q1 q2 q3 q4
  obtain ⟨ls', e', h'⟩ := pa_Lo_set (v := pv_r v) q4 hn trivial
  intro T hT X
  obtain ⟨t, a1, b1⟩ := kk ad H locs ls' q1 q2 q3 h' T hT X
  refine ⟨t, ?_, b1⟩
  have hexec := C.1
  have hb := C.2.1
  cases v with
  | none =>
    have e2 : storeLocals ls k .null = some ls' := e'
    show Steps p.tables e below (T.setTop (F0 m pc ls (.null :: st.map (pa_tr ad)))) t
    jvm_step X.here [X.here.top, ↓top_set X.here.top, hexec, hb, dg, e2, Value.isRef]
    exact a1
  | some n =>
    have e2 : storeLocals ls k (.ref (ad n)) = some ls' := e'
    show Steps p.tables e below (T.setTop (F0 m pc ls (.ref (ad n) :: st.map (pa_tr ad)))) t
    jvm_step X.here [X.here.top, ↓top_set X.here.top, hexec, hb, dg, e2, Value.isRef]
    exact a1
theorem pr_astore (C : pa_C G x cc nL own d mc ms) {k : Nat} {v : Option pa_Nm} (dg : decode cc pc = .ok (.astore k, 2)) (hn : k < nL) (kk : pa_w G x nL h a b (pc + 2) (lo.set k (some (pv_r v))) st) : pa_w G x nL h a b pc lo (pv_r v :: st) := by
  obtain ⟨p, l, e, R, s, m, args, below, meth, c, Q, h0, ad0, al⟩ := x
  intro ad H locs ls q1 q2 q3 q4
  obtain ⟨ls', e', h'⟩ := pa_Lo_set (v := pv_r v) q4 hn trivial
  intro T hT X
  obtain ⟨t, a1, b1⟩ := kk ad H locs ls' q1 q2 q3 h' T hT X
  refine ⟨t, ?_, b1⟩
  have hexec := C.1
  have hb := C.2.1
  cases v with
  | none =>
    have e2 : storeLocals ls k .null = some ls' := e'
    show Steps p.tables e below (T.setTop (F0 m pc ls (.null :: st.map (pa_tr ad)))) t
    jvm_step X.here [X.here.top, ↓top_set X.here.top, hexec, hb, dg, e2, Value.isRef]
    exact a1
  | some n =>
    have e2 : storeLocals ls k (.ref (ad n)) = some ls' := e'
    show Steps p.tables e below (T.setTop (F0 m pc ls (.ref (ad n) :: st.map (pa_tr ad)))) t
    jvm_step X.here [X.here.top, ↓top_set X.here.top, hexec, hb, dg, e2, Value.isRef]
    exact a1
theorem pr_iinc (C : pa_C G x cc nL own d mc ms) {k : Nat} {n : Int} {v w z : Int32} (dg : decode cc pc = .ok (.iinc k n, 3)) (hl : lo[k]? = some (some (pv_i v))) (hz : Int32.ofInt n = z) (hv : v + z = w) (hn : k < nL) (kk : pa_w G x nL h a b (pc + 3) (lo.set k (some (pv_i w))) st) : pa_w G x nL h a b pc lo st := by
  obtain ⟨p, l, e, R, s, m, args, below, meth, c, Q, h0, ad0, al⟩ := x
  intro ad H locs ls q1 q2 q3 q4
  obtain ⟨ls', e', h'⟩ := pa_Lo_set (v := pv_i w) q4 hn trivial
  intro T hT X
  obtain ⟨t, a1, b1⟩ := kk ad H locs ls' q1 q2 q3 h' T hT X
  refine ⟨t, ?_, b1⟩
  have hg : ls[k]? = some (.val (.int v)) := (q4.2.2 _ _ hl).1
  subst hz
  subst hv
  have e2 : storeLocals ls k (.int (v + Int32.ofInt n)) = some ls' := e'
  have hexec := C.1
  have hb := C.2.1
  jvm_step X.here [X.here.top, ↓top_set X.here.top, hexec, hb, dg, hg, e2]
  exact a1
theorem pr_iadd (C : pa_C G x cc nL own d mc ms) {u v : Int32} (dg : decode cc pc = .ok (.iadd, 1)) (k : pa_w G x nL h a b (pc + 1) lo (pv_i (u + v) :: st)) : pa_w G x nL h a b pc lo (pv_i v :: pv_i u :: st) := by
  obtain ⟨p, l, e, R, s, m, args, below, meth, c, Q, h0, ad0, al⟩ := x
  exact fun ad H locs ls q1 q2 q3 q4 => lv_iadd C.1 C.2.1 dg (k ad H locs ls q1 q2 q3 q4)
theorem pr_isub (C : pa_C G x cc nL own d mc ms) {u v : Int32} (dg : decode cc pc = .ok (.isub, 1)) (k : pa_w G x nL h a b (pc + 1) lo (pv_i (u - v) :: st)) : pa_w G x nL h a b pc lo (pv_i v :: pv_i u :: st) := by
  obtain ⟨p, l, e, R, s, m, args, below, meth, c, Q, h0, ad0, al⟩ := x
  exact fun ad H locs ls q1 q2 q3 q4 => lv_isub C.1 C.2.1 dg (k ad H locs ls q1 q2 q3 q4)
theorem pr_imul (C : pa_C G x cc nL own d mc ms) {u v : Int32} (dg : decode cc pc = .ok (.imul, 1)) (k : pa_w G x nL h a b (pc + 1) lo (pv_i (u * v) :: st)) : pa_w G x nL h a b pc lo (pv_i v :: pv_i u :: st) := by
  obtain ⟨p, l, e, R, s, m, args, below, meth, c, Q, h0, ad0, al⟩ := x
  exact fun ad H locs ls q1 q2 q3 q4 => lv_imul C.1 C.2.1 dg (k ad H locs ls q1 q2 q3 q4)
theorem pr_iand (C : pa_C G x cc nL own d mc ms) {u v : Int32} (dg : decode cc pc = .ok (.iand, 1)) (k : pa_w G x nL h a b (pc + 1) lo (pv_i (u &&& v) :: st)) : pa_w G x nL h a b pc lo (pv_i v :: pv_i u :: st) := by
  obtain ⟨p, l, e, R, s, m, args, below, meth, c, Q, h0, ad0, al⟩ := x
  exact fun ad H locs ls q1 q2 q3 q4 => lv_iand C.1 C.2.1 dg (k ad H locs ls q1 q2 q3 q4)
theorem pr_ior (C : pa_C G x cc nL own d mc ms) {u v : Int32} (dg : decode cc pc = .ok (.ior, 1)) (k : pa_w G x nL h a b (pc + 1) lo (pv_i (u ||| v) :: st)) : pa_w G x nL h a b pc lo (pv_i v :: pv_i u :: st) := by
  obtain ⟨p, l, e, R, s, m, args, below, meth, c, Q, h0, ad0, al⟩ := x
  exact fun ad H locs ls q1 q2 q3 q4 => lv_ior C.1 C.2.1 dg (k ad H locs ls q1 q2 q3 q4)
theorem pr_ixor (C : pa_C G x cc nL own d mc ms) {u v : Int32} (dg : decode cc pc = .ok (.ixor, 1)) (k : pa_w G x nL h a b (pc + 1) lo (pv_i (u ^^^ v) :: st)) : pa_w G x nL h a b pc lo (pv_i v :: pv_i u :: st) := by
  obtain ⟨p, l, e, R, s, m, args, below, meth, c, Q, h0, ad0, al⟩ := x
  exact fun ad H locs ls q1 q2 q3 q4 => lv_ixor C.1 C.2.1 dg (k ad H locs ls q1 q2 q3 q4)
theorem pr_ishl (C : pa_C G x cc nL own d mc ms) {u v : Int32} (dg : decode cc pc = .ok (.ishl, 1)) (k : pa_w G x nL h a b (pc + 1) lo (pv_i (u <<< (v &&& 31)) :: st)) : pa_w G x nL h a b pc lo (pv_i v :: pv_i u :: st) := by
  obtain ⟨p, l, e, R, s, m, args, below, meth, c, Q, h0, ad0, al⟩ := x
  exact fun ad H locs ls q1 q2 q3 q4 => lv_ishl C.1 C.2.1 dg (k ad H locs ls q1 q2 q3 q4)
theorem pr_ishr (C : pa_C G x cc nL own d mc ms) {u v : Int32} (dg : decode cc pc = .ok (.ishr, 1)) (k : pa_w G x nL h a b (pc + 1) lo (pv_i (u >>> (v &&& 31)) :: st)) : pa_w G x nL h a b pc lo (pv_i v :: pv_i u :: st) := by
  obtain ⟨p, l, e, R, s, m, args, below, meth, c, Q, h0, ad0, al⟩ := x
  exact fun ad H locs ls q1 q2 q3 q4 => lv_ishr C.1 C.2.1 dg (k ad H locs ls q1 q2 q3 q4)
theorem pr_idiv (C : pa_C G x cc nL own d mc ms) {u v : Int32} (dg : decode cc pc = .ok (.idiv, 1)) (hne : ¬ v = 0) (k : pa_w G x nL h a b (pc + 1) lo (pv_i (u / v) :: st)) : pa_w G x nL h a b pc lo (pv_i v :: pv_i u :: st) := by
  obtain ⟨p, l, e, R, s, m, args, below, meth, c, Q, h0, ad0, al⟩ := x
  exact fun ad H locs ls q1 q2 q3 q4 => lv_idiv C.1 C.2.1 dg hne (k ad H locs ls q1 q2 q3 q4)
theorem pr_irem (C : pa_C G x cc nL own d mc ms) {u v : Int32} (dg : decode cc pc = .ok (.irem, 1)) (hne : ¬ v = 0) (k : pa_w G x nL h a b (pc + 1) lo (pv_i (u - u / v * v) :: st)) : pa_w G x nL h a b pc lo (pv_i v :: pv_i u :: st) := by
  obtain ⟨p, l, e, R, s, m, args, below, meth, c, Q, h0, ad0, al⟩ := x
  exact fun ad H locs ls q1 q2 q3 q4 => lv_irem C.1 C.2.1 dg hne (k ad H locs ls q1 q2 q3 q4)
theorem pr_if_eq (C : pa_C G x cc nL own d mc ms) {u : Int32} {off : Int} (tgt : Nat) (dg : decode cc pc = .ok (.ifCond .eq off, 3)) (ht : (pc : Int) + off = (tgt : Int)) (kt : u = 0 → pa_w G x nL h a b tgt lo st) (kf : ¬ (u = 0) → pa_w G x nL h a b (pc + 3) lo st) : pa_w G x nL h a b pc lo (pv_i u :: st) := by
  obtain ⟨p, l, e, R, s, m, args, below, meth, c, Q, h0, ad0, al⟩ := x
  exact fun ad H locs ls q1 q2 q3 q4 => lv_if_eq C.1 C.2.1 dg ht (fun z => kt z ad H locs ls q1 q2 q3 q4) (fun z => kf z ad H locs ls q1 q2 q3 q4)
theorem pr_icmp_eq (C : pa_C G x cc nL own d mc ms) {u v : Int32} {off : Int} (tgt : Nat) (dg : decode cc pc = .ok (.if_icmp .eq off, 3)) (ht : (pc : Int) + off = (tgt : Int)) (kt : u = v → pa_w G x nL h a b tgt lo st) (kf : ¬ (u = v) → pa_w G x nL h a b (pc + 3) lo st) : pa_w G x nL h a b pc lo (pv_i v :: pv_i u :: st) := by
  obtain ⟨p, l, e, R, s, m, args, below, meth, c, Q, h0, ad0, al⟩ := x
  exact fun ad H locs ls q1 q2 q3 q4 => lv_icmp_eq C.1 C.2.1 dg ht (fun z => kt z ad H locs ls q1 q2 q3 q4) (fun z => kf z ad H locs ls q1 q2 q3 q4)
theorem pr_if_ne (C : pa_C G x cc nL own d mc ms) {u : Int32} {off : Int} (tgt : Nat) (dg : decode cc pc = .ok (.ifCond .ne off, 3)) (ht : (pc : Int) + off = (tgt : Int)) (kt : u ≠ 0 → pa_w G x nL h a b tgt lo st) (kf : u = 0 → pa_w G x nL h a b (pc + 3) lo st) : pa_w G x nL h a b pc lo (pv_i u :: st) := by
  obtain ⟨p, l, e, R, s, m, args, below, meth, c, Q, h0, ad0, al⟩ := x
  exact fun ad H locs ls q1 q2 q3 q4 => lv_if_ne C.1 C.2.1 dg ht (fun z => kt z ad H locs ls q1 q2 q3 q4) (fun z => kf z ad H locs ls q1 q2 q3 q4)
theorem pr_icmp_ne (C : pa_C G x cc nL own d mc ms) {u v : Int32} {off : Int} (tgt : Nat) (dg : decode cc pc = .ok (.if_icmp .ne off, 3)) (ht : (pc : Int) + off = (tgt : Int)) (kt : u ≠ v → pa_w G x nL h a b tgt lo st) (kf : u = v → pa_w G x nL h a b (pc + 3) lo st) : pa_w G x nL h a b pc lo (pv_i v :: pv_i u :: st) := by
  obtain ⟨p, l, e, R, s, m, args, below, meth, c, Q, h0, ad0, al⟩ := x
  exact fun ad H locs ls q1 q2 q3 q4 => lv_icmp_ne C.1 C.2.1 dg ht (fun z => kt z ad H locs ls q1 q2 q3 q4) (fun z => kf z ad H locs ls q1 q2 q3 q4)
theorem pr_if_lt (C : pa_C G x cc nL own d mc ms) {u : Int32} {off : Int} (tgt : Nat) (dg : decode cc pc = .ok (.ifCond .lt off, 3)) (ht : (pc : Int) + off = (tgt : Int)) (kt : u < 0 → pa_w G x nL h a b tgt lo st) (kf : ¬ (u < 0) → pa_w G x nL h a b (pc + 3) lo st) : pa_w G x nL h a b pc lo (pv_i u :: st) := by
  obtain ⟨p, l, e, R, s, m, args, below, meth, c, Q, h0, ad0, al⟩ := x
  exact fun ad H locs ls q1 q2 q3 q4 => lv_if_lt C.1 C.2.1 dg ht (fun z => kt z ad H locs ls q1 q2 q3 q4) (fun z => kf z ad H locs ls q1 q2 q3 q4)
theorem pr_icmp_lt (C : pa_C G x cc nL own d mc ms) {u v : Int32} {off : Int} (tgt : Nat) (dg : decode cc pc = .ok (.if_icmp .lt off, 3)) (ht : (pc : Int) + off = (tgt : Int)) (kt : u < v → pa_w G x nL h a b tgt lo st) (kf : ¬ (u < v) → pa_w G x nL h a b (pc + 3) lo st) : pa_w G x nL h a b pc lo (pv_i v :: pv_i u :: st) := by
  obtain ⟨p, l, e, R, s, m, args, below, meth, c, Q, h0, ad0, al⟩ := x
  exact fun ad H locs ls q1 q2 q3 q4 => lv_icmp_lt C.1 C.2.1 dg ht (fun z => kt z ad H locs ls q1 q2 q3 q4) (fun z => kf z ad H locs ls q1 q2 q3 q4)
theorem pr_if_ge (C : pa_C G x cc nL own d mc ms) {u : Int32} {off : Int} (tgt : Nat) (dg : decode cc pc = .ok (.ifCond .ge off, 3)) (ht : (pc : Int) + off = (tgt : Int)) (kt : 0 ≤ u → pa_w G x nL h a b tgt lo st) (kf : ¬ (0 ≤ u) → pa_w G x nL h a b (pc + 3) lo st) : pa_w G x nL h a b pc lo (pv_i u :: st) := by
  obtain ⟨p, l, e, R, s, m, args, below, meth, c, Q, h0, ad0, al⟩ := x
  exact fun ad H locs ls q1 q2 q3 q4 => lv_if_ge C.1 C.2.1 dg ht (fun z => kt z ad H locs ls q1 q2 q3 q4) (fun z => kf z ad H locs ls q1 q2 q3 q4)
theorem pr_icmp_ge (C : pa_C G x cc nL own d mc ms) {u v : Int32} {off : Int} (tgt : Nat) (dg : decode cc pc = .ok (.if_icmp .ge off, 3)) (ht : (pc : Int) + off = (tgt : Int)) (kt : v ≤ u → pa_w G x nL h a b tgt lo st) (kf : ¬ (v ≤ u) → pa_w G x nL h a b (pc + 3) lo st) : pa_w G x nL h a b pc lo (pv_i v :: pv_i u :: st) := by
  obtain ⟨p, l, e, R, s, m, args, below, meth, c, Q, h0, ad0, al⟩ := x
  exact fun ad H locs ls q1 q2 q3 q4 => lv_icmp_ge C.1 C.2.1 dg ht (fun z => kt z ad H locs ls q1 q2 q3 q4) (fun z => kf z ad H locs ls q1 q2 q3 q4)
theorem pr_if_gt (C : pa_C G x cc nL own d mc ms) {u : Int32} {off : Int} (tgt : Nat) (dg : decode cc pc = .ok (.ifCond .gt off, 3)) (ht : (pc : Int) + off = (tgt : Int)) (kt : 0 < u → pa_w G x nL h a b tgt lo st) (kf : ¬ (0 < u) → pa_w G x nL h a b (pc + 3) lo st) : pa_w G x nL h a b pc lo (pv_i u :: st) := by
  obtain ⟨p, l, e, R, s, m, args, below, meth, c, Q, h0, ad0, al⟩ := x
  exact fun ad H locs ls q1 q2 q3 q4 => lv_if_gt C.1 C.2.1 dg ht (fun z => kt z ad H locs ls q1 q2 q3 q4) (fun z => kf z ad H locs ls q1 q2 q3 q4)
theorem pr_icmp_gt (C : pa_C G x cc nL own d mc ms) {u v : Int32} {off : Int} (tgt : Nat) (dg : decode cc pc = .ok (.if_icmp .gt off, 3)) (ht : (pc : Int) + off = (tgt : Int)) (kt : v < u → pa_w G x nL h a b tgt lo st) (kf : ¬ (v < u) → pa_w G x nL h a b (pc + 3) lo st) : pa_w G x nL h a b pc lo (pv_i v :: pv_i u :: st) := by
  obtain ⟨p, l, e, R, s, m, args, below, meth, c, Q, h0, ad0, al⟩ := x
  exact fun ad H locs ls q1 q2 q3 q4 => lv_icmp_gt C.1 C.2.1 dg ht (fun z => kt z ad H locs ls q1 q2 q3 q4) (fun z => kf z ad H locs ls q1 q2 q3 q4)
theorem pr_if_le (C : pa_C G x cc nL own d mc ms) {u : Int32} {off : Int} (tgt : Nat) (dg : decode cc pc = .ok (.ifCond .le off, 3)) (ht : (pc : Int) + off = (tgt : Int)) (kt : u ≤ 0 → pa_w G x nL h a b tgt lo st) (kf : ¬ (u ≤ 0) → pa_w G x nL h a b (pc + 3) lo st) : pa_w G x nL h a b pc lo (pv_i u :: st) := by
  obtain ⟨p, l, e, R, s, m, args, below, meth, c, Q, h0, ad0, al⟩ := x
  exact fun ad H locs ls q1 q2 q3 q4 => lv_if_le C.1 C.2.1 dg ht (fun z => kt z ad H locs ls q1 q2 q3 q4) (fun z => kf z ad H locs ls q1 q2 q3 q4)
theorem pr_icmp_le (C : pa_C G x cc nL own d mc ms) {u v : Int32} {off : Int} (tgt : Nat) (dg : decode cc pc = .ok (.if_icmp .le off, 3)) (ht : (pc : Int) + off = (tgt : Int)) (kt : u ≤ v → pa_w G x nL h a b tgt lo st) (kf : ¬ (u ≤ v) → pa_w G x nL h a b (pc + 3) lo st) : pa_w G x nL h a b pc lo (pv_i v :: pv_i u :: st) := by
  obtain ⟨p, l, e, R, s, m, args, below, meth, c, Q, h0, ad0, al⟩ := x
  exact fun ad H locs ls q1 q2 q3 q4 => lv_icmp_le C.1 C.2.1 dg ht (fun z => kt z ad H locs ls q1 q2 q3 q4) (fun z => kf z ad H locs ls q1 q2 q3 q4)
theorem pr_goto (C : pa_C G x cc nL own d mc ms) {off : Int} (tgt : Nat) (dg : decode cc pc = .ok (.goto off, 3)) (ht : (pc : Int) + off = (tgt : Int)) (k : pa_w G x nL h a b tgt lo st) : pa_w G x nL h a b pc lo st := by
  obtain ⟨p, l, e, R, s, m, args, below, meth, c, Q, h0, ad0, al⟩ := x
  exact fun ad H locs ls q1 q2 q3 q4 => lv_goto C.1 C.2.1 dg ht (k ad H locs ls q1 q2 q3 q4)
theorem pr_dup (C : pa_C G x cc nL own d mc ms) {v : pa_V} (dg : decode cc pc = .ok (.dup, 1)) (hv : pa_c1 v) (k : pa_w G x nL h a b (pc + 1) lo (v :: v :: st)) : pa_w G x nL h a b pc lo (v :: st) := by
  obtain ⟨p, l, e, R, s, m, args, below, meth, c, Q, h0, ad0, al⟩ := x
  exact fun ad H locs ls q1 q2 q3 q4 => lv_dup C.1 C.2.1 dg (pa_c1_cat hv) (k ad H locs ls q1 q2 q3 q4)
theorem pr_dup2 (C : pa_C G x cc nL own d mc ms) {v w : pa_V} (dg : decode cc pc = .ok (.dup2, 1)) (hv : pa_c1 v) (hw : pa_c1 w) (k : pa_w G x nL h a b (pc + 1) lo (v :: w :: v :: w :: st)) : pa_w G x nL h a b pc lo (v :: w :: st) := by
  obtain ⟨p, l, e, R, s, m, args, below, meth, c, Q, h0, ad0, al⟩ := x
  exact fun ad H locs ls q1 q2 q3 q4 => lv_dup2_11 C.1 C.2.1 dg (pa_c1_cat hv) (pa_c1_cat hw) (k ad H locs ls q1 q2 q3 q4)
theorem pr_pop (C : pa_C G x cc nL own d mc ms) {v : pa_V} (dg : decode cc pc = .ok (.pop, 1)) (hv : pa_c1 v) (k : pa_w G x nL h a b (pc + 1) lo st) : pa_w G x nL h a b pc lo (v :: st) := by
  obtain ⟨p, l, e, R, s, m, args, below, meth, c, Q, h0, ad0, al⟩ := x
  exact fun ad H locs ls q1 q2 q3 q4 => lv_pop C.1 C.2.1 dg (pa_c1_cat hv) (k ad H locs ls q1 q2 q3 q4)
theorem pr_null (C : pa_C G x cc nL own d mc ms) (dg : decode cc pc = .ok (.aconst_null, 1)) (k : pa_w G x nL h a b (pc + 1) lo (pv_r none :: st)) : pa_w G x nL h a b pc lo st := by
  obtain ⟨p, l, e, R, s, m, args, below, meth, c, Q, h0, ad0, al⟩ := x
  exact fun ad H locs ls q1 q2 q3 q4 => lv_null C.1 C.2.1 dg (k ad H locs ls q1 q2 q3 q4)
theorem pr_ldc (C : pa_C G x cc nL own d mc ms) {ix : Nat} {v : Int32} (dg : decode cc pc = .ok (.ldc ix, 2)) (hw : Jvm.Cond.constant own ix v ∈ pa_wl) (k : pa_w G x nL h a b (pc + 2) lo (pv_i v :: st)) : pa_w G x nL h a b pc lo st := by
  obtain ⟨p, l, e, R, s, m, args, below, meth, c, Q, h0, ad0, al⟩ := x
  exact fun ad H locs ls q1 q2 q3 q4 => lv_ldc C.1 C.2.1 C.2.2.2.1 (C.2.2.2.2.1 _ hw) dg (k ad H locs ls q1 q2 q3 q4)
theorem pr_ifnull (C : pa_C G x cc nL own d mc ms) {r : Option pa_Nm} {off : Int} (tgt : Nat) (dg : decode cc pc = .ok (.ifnull off, 3)) (ht : (pc : Int) + off = (tgt : Int)) (kt : r = none → pa_w G x nL h a b tgt lo st) (kf : ∀ n, r = some n → pa_w G x nL h a b (pc + 3) lo st) : pa_w G x nL h a b pc lo (pv_r r :: st) := by
  obtain ⟨p, l, e, R, s, m, args, below, meth, c, Q, h0, ad0, al⟩ := x
  intro ad H locs ls q1 q2 q3 q4
  cases r with
  | none => exact lv_ifnullN C.1 C.2.1 dg ht (kt rfl ad H locs ls q1 q2 q3 q4)
  | some n => exact lv_ifnull C.1 C.2.1 dg (kf n rfl ad H locs ls q1 q2 q3 q4)
theorem pr_ifnonnull (C : pa_C G x cc nL own d mc ms) {r : Option pa_Nm} {off : Int} (tgt : Nat) (dg : decode cc pc = .ok (.ifnonnull off, 3)) (ht : (pc : Int) + off = (tgt : Int)) (kt : ∀ n, r = some n → pa_w G x nL h a b tgt lo st) (kf : r = none → pa_w G x nL h a b (pc + 3) lo st) : pa_w G x nL h a b pc lo (pv_r r :: st) := by
  obtain ⟨p, l, e, R, s, m, args, below, meth, c, Q, h0, ad0, al⟩ := x
  intro ad H locs ls q1 q2 q3 q4
  cases r with
  | none => exact lv_ifnonnullN C.1 C.2.1 dg (kf rfl ad H locs ls q1 q2 q3 q4)
  | some n => exact lv_ifnonnull C.1 C.2.1 dg ht (kt n rfl ad H locs ls q1 q2 q3 q4)
/-- two names in use: the same cell or two -/
theorem pr_acmp_eq (C : pa_C G x cc nL own d mc ms) {n1 n2 : pa_Nm} {off : Int} (tgt : Nat) (dg : decode cc pc = .ok (.if_acmp .eq off, 3)) (ht : (pc : Int) + off = (tgt : Int)) (l1 : pa_lv h.2.2.1 n1) (l2 : pa_lv h.2.2.1 n2) (kt : n1 = n2 → pa_w G x nL h a b tgt lo st) (kf : n1 ≠ n2 → pa_w G x nL h a b (pc + 3) lo st) : pa_w G x nL h a b pc lo (pv_r (some n2) :: pv_r (some n1) :: st) := by
  obtain ⟨p, l, e, R, s, m, args, below, meth, c, Q, h0, ad0, al⟩ := x
  intro ad H locs ls q1 q2 q3 q4
  exact lv_acmp_eq (rx := some (ad n1)) (ry := some (ad n2)) C.1 C.2.1 dg ht (fun z => kt (q1.2.1 n1 n2 l1 l2 (Option.some.inj z)) ad H locs ls q1 q2 q3 q4) (fun z => kf (fun e => z (by rw [e])) ad H locs ls q1 q2 q3 q4)
theorem pr_acmp_ne (C : pa_C G x cc nL own d mc ms) {n1 n2 : pa_Nm} {off : Int} (tgt : Nat) (dg : decode cc pc = .ok (.if_acmp .ne off, 3)) (ht : (pc : Int) + off = (tgt : Int)) (l1 : pa_lv h.2.2.1 n1) (l2 : pa_lv h.2.2.1 n2) (kt : n1 ≠ n2 → pa_w G x nL h a b tgt lo st) (kf : n1 = n2 → pa_w G x nL h a b (pc + 3) lo st) : pa_w G x nL h a b pc lo (pv_r (some n2) :: pv_r (some n1) :: st) := by
  obtain ⟨p, l, e, R, s, m, args, below, meth, c, Q, h0, ad0, al⟩ := x
  intro ad H locs ls q1 q2 q3 q4
  exact lv_acmp_ne (rx := some (ad n1)) (ry := some (ad n2)) C.1 C.2.1 dg ht (fun z => kt (fun e => z (by rw [e])) ad H locs ls q1 q2 q3 q4) (fun z => kf (q1.2.1 n1 n2 l1 l2 (Option.some.inj z)) ad H locs ls q1 q2 q3 q4)
theorem pr_tableIn (C : pa_C G x cc nL own d mc ms) {v : Int32} {dflt lo9 hi : Int} {offs : Array Int} {len : Nat} {off : Int} (tgt : Nat) (dg : decode cc pc = .ok (.tableswitch dflt lo9 hi offs, len)) (h1 : ¬ v.toInt < lo9) (h2 : ¬ hi < v.toInt) (ho : offs[(v.toInt - lo9).toNat]? = some off) (ht : (pc : Int) + off = (tgt : Int)) (k : pa_w G x nL h a b tgt lo st) : pa_w G x nL h a b pc lo (pv_i v :: st) := by
  obtain ⟨p, l, e, R, s, m, args, below, meth, c, Q, h0, ad0, al⟩ := x
  exact fun ad H locs ls q1 q2 q3 q4 => lv_tableIn C.1 C.2.1 dg h1 h2 ho ht (k ad H locs ls q1 q2 q3 q4)
theorem pr_tableOut (C : pa_C G x cc nL own d mc ms) {v : Int32} {dflt lo9 hi : Int} {offs : Array Int} {len : Nat} (tgt : Nat) (dg : decode cc pc = .ok (.tableswitch dflt lo9 hi offs, len)) (h1 : v.toInt < lo9 ∨ hi < v.toInt) (ht : (pc : Int) + dflt = (tgt : Int)) (k : pa_w G x nL h a b tgt lo st) : pa_w G x nL h a b pc lo (pv_i v :: st) := by
  obtain ⟨p, l, e, R, s, m, args, below, meth, c, Q, h0, ad0, al⟩ := x
  exact fun ad H locs ls q1 q2 q3 q4 => lv_tableOut C.1 C.2.1 dg h1 ht (k ad H locs ls q1 q2 q3 q4)
-- cells of names
theorem pa_P1 {D : va_G} {cl : List vw_C} {q : Nat × va_E} {H : Heap} (h : va_at D cl q H) : va_P D cl [q] H := fun k z hk => by
  have hz : k < 1 := (List.getElem?_eq_some_iff.mp hk).1
  rw [show k = 0 by omega] at hk
  cases hk
  exact h
theorem pa_ce_ar (G : pa_G) (ad : pa_Nm → Nat) (h : pa_H) (f o : Nat) : pa_ce G ad h (100 + f, o) = .inl (G.2.1 (pa_ac f), pa_ln f, pa_av ad h f o) := by
  unfold pa_ce
  dsimp only
  rw [if_neg (by omega), if_neg (by omega), if_neg (by omega), if_neg (by omega), if_neg (by omega), if_neg (by omega), show 100 + f - 100 = f by omega]
theorem pa_ce_ob (G : pa_G) (ad : pa_Nm → Nat) (h : pa_H) {k : Nat} (o : Nat) (h1 : 1 ≤ k) (h2 : k < 6) : pa_ce G ad h (k, o) = .inr (k, pa_fs ad h k o (pa_nf k)) := by
  unfold pa_ce
  dsimp only
  rw [if_neg (by omega), if_pos h2]
theorem pa_fs_get (ad : pa_Nm → Nat) (h : pa_H) (k o n j : Nat) (hj : j < n) : (pa_fs ad h k o n)[j]? = some (pa_fv ad h (40 * k + j) o) := by
  unfold pa_fs
  rw [List.getElem?_map, List.getElem?_range hj]
  rfl
theorem pa_fs_len (ad : pa_Nm → Nat) (h : pa_H) (k o n : Nat) : (pa_fs ad h k o n).length = n := by
  unfold pa_fs
  rw [List.length_map, List.length_range]
/-- a field that the class own names by its entry ix: the field j of the kind k -/
def pa_fd (own : String) (ix k j : Nat) : Prop := 1 ≤ k ∧ k < 6 ∧ ∃ (q : vw_C) (ty0 : Nat → FieldType), vwCl[k]? = some q ∧ j < q.2.2 ∧ q.2.2 = pa_nf k ∧ (∀ w ∈ u_ws q.1 q.2.1 q.2.2, w ∈ pa_wl) ∧ Cond.fieldLink own ix (q.2.1 j).1 (q.2.1 j).2.1 (q.2.1 j).2.2.1 ∈ pa_wl ∧
  (∀ k, k < q.2.2 → parseFieldDescriptor (q.2.1 k).2.2.1 = some (ty0 k)) ∧ (∀ a, a < q.2.2 → ∀ b, b < q.2.2 → a ≠ b → (q.2.1 a).2.1 ≠ (q.2.1 b).2.1)
theorem pr_getf (C : pa_C G x cc nL own d mc ms) {ix k j i : Nat} (F : pa_fd own ix k j) (hl : pa_lv h.2.2.1 (k, i)) {v : pa_V} (hv : ∀ ad, pa_fv ad h (40 * k + j) i = pa_tr ad v) (dg : decode cc pc = .ok (.getfield ix, 3)) (kk : pa_w G x nL h a b (pc + 3) lo (v :: st)) : pa_w G x nL h a b pc lo (pv_o k i :: st) := by
  obtain ⟨p, l, e, R, s, m, args, below, meth, c, Q, h0, ad0, al⟩ := x
  intro ad H locs ls q1 q2 q3 q4
  obtain ⟨f1, f2, ⟨Cn, T, Nn⟩, ty0, f3, f4, f5, f6, f7, -⟩ := F
  obtain ⟨hx, hb, -, hown, hts, hU, -⟩ := C
  dsimp only at f4 f5 f6 f7
  have h1 := q1.1 (k, i) hl
  rw [pa_ce_ob G ad h i f1 f2] at h1
  exact va_get hx hb (ref := (T j).1) (C := Cn) (T := T) (N := Nn) hts f6 hown hU.1 (pa_P1 h1) 0 rfl f3 j f4 (hts _ f7) (fun _ z => z) (v := pa_tr ad v) (by rw [pa_fs_get ad h k i _ j (by omega), hv ad]) dg (kk ad H locs ls q1 q2 q3 q4)
theorem pr_geti (C : pa_C G x cc nL own d mc ms) (f : Nat) {ix k j i : Nat} (F : pa_fd own ix k j) (hf : 40 * k + j = f) (hty : pa_ty f = 0 ∨ pa_ty f = 8) (hl : pa_lv h.2.2.1 (k, i)) (dg : decode cc pc = .ok (.getfield ix, 3)) (kk : pa_w G x nL h a b (pc + 3) lo (pv_i (h.1 f i 0) :: st)) : pa_w G x nL h a b pc lo (pv_o k i :: st) :=
  pr_getf C F hl (fun ad => by rw [hf, pa_fv, if_pos hty]; rfl) dg kk
theorem pr_gett (C : pa_C G x cc nL own d mc ms) (f : Nat) {ix k j i : Nat} (F : pa_fd own ix k j) (hf : 40 * k + j = f) (hty : pa_ty f = 2) (hl : pa_lv h.2.2.1 (k, i)) (dg : decode cc pc = .ok (.getfield ix, 3)) (kk : pa_w G x nL h a b (pc + 3) lo (pv_r (pa_rc 3 (h.1 f i 0)) :: st)) : pa_w G x nL h a b pc lo (pv_o k i :: st) :=
  pr_getf C F hl (fun ad => by rw [hf, pa_fv, if_neg (by omega), if_pos hty, pa_tr_r]) dg kk
theorem pr_gets (C : pa_C G x cc nL own d mc ms) (f : Nat) {ix k j i : Nat} (F : pa_fd own ix k j) (hf : 40 * k + j = f) (hty : pa_ty f = 3) (hl : pa_lv h.2.2.1 (k, i)) (w : Nat) (hw : h.1 f i 0 = nI w) (hw4 : w < 4) (dg : decode cc pc = .ok (.getfield ix, 3)) (kk : pa_w G x nL h a b (pc + 3) lo (pv_o 1 w :: st)) : pa_w G x nL h a b pc lo (pv_o k i :: st) :=
  pr_getf C F hl (fun ad => by rw [hf, pa_fv, if_neg (by omega), if_neg (by omega), if_pos hty, hw, nI_clamp (by omega)]; rfl) dg kk
theorem pr_getl (C : pa_C G x cc nL own d mc ms) (f l9 : Nat) {ix k j i : Nat} (F : pa_fd own ix k j) (hf : 40 * k + j = f) (hty : pa_ty f = 6) (hl9 : f - 162 = l9) (hl : pa_lv h.2.2.1 (k, i)) (dg : decode cc pc = .ok (.getfield ix, 3)) (kk : pa_w G x nL h a b (pc + 3) lo (pv_o 0 l9 :: st)) : pa_w G x nL h a b pc lo (pv_o k i :: st) :=
  pr_getf C F hl (fun ad => by rw [hf, pa_fv, if_neg (by omega), if_neg (by omega), if_neg (by omega), if_pos hty, hl9]; rfl) dg kk
theorem pr_getm (C : pa_C G x cc nL own d mc ms) (f : Nat) {ix k j i : Nat} (F : pa_fd own ix k j) (hf : 40 * k + j = f) (hty : pa_ty f = 10 ∨ pa_ty f = 11) (hl : pa_lv h.2.2.1 (k, i)) (dg : decode cc pc = .ok (.getfield ix, 3)) (kk : pa_w G x nL h a b (pc + 3) lo (pv_i (h.2.1 f 0) :: st)) : pa_w G x nL h a b pc lo (pv_o k i :: st) :=
  pr_getf C F hl (fun ad => by rw [hf, pa_fv, if_neg (by omega), if_neg (by omega), if_neg (by omega), if_neg (by omega), if_pos hty]; rfl) dg kk
theorem pr_geta (C : pa_C G x cc nL own d mc ms) (f g : Nat) {ix k j i : Nat} (F : pa_fd own ix k j) (hf : 40 * k + j = f) (hg : 100 + f = g) (hty : pa_ty f = 1 ∨ pa_ty f = 4 ∨ pa_ty f = 5 ∨ pa_ty f = 12 ∨ pa_ty f = 13) (hl : pa_lv h.2.2.1 (k, i)) (dg : decode cc pc = .ok (.getfield ix, 3)) (kk : pa_w G x nL h a b (pc + 3) lo (pv_o g i :: st)) : pa_w G x nL h a b pc lo (pv_o k i :: st) :=
  pr_getf C F hl (fun ad => by rw [hf, pa_fv, if_neg (by omega), if_neg (by omega), if_neg (by omega), if_neg (by omega), if_neg (by omega), hg]; rfl) dg kk
-- rows are read
theorem pr_aldi (C : pa_C G x cc nL own d mc ms) (f : Nat) {g o n : Nat} {i : Int32} (j : Nat) (hg : 100 + f = g) (hty : pa_ty f = 1) (hn : pa_ln f = n) (hl : pa_lv h.2.2.1 (g, o)) (hi : i = nI j) (hj : j < n) (hn9 : n < 1000) (dg : decode cc pc = .ok (.iaload, 1)) (kk : pa_w G x nL h a b (pc + 1) lo (pv_i (h.1 f o j) :: st)) : pa_w G x nL h a b pc lo (pv_i i :: pv_o g o :: st) := by
  obtain ⟨p, l, e, R, s, m, args, below, meth, c, Q, h0, ad0, al⟩ := x
  intro ad H locs ls q1 q2 q3 q4
  have h1 := q1.1 (g, o) hl
  rw [← hg, pa_ce_ar, show pa_ac f = 0 by simp [pa_ac, hty], hn, show pa_av ad h f o = .inl (h.1 f o) by simp [pa_av, hty], hg] at h1
  have k2 := kk ad H locs ls q1 q2 q3 q4
  have hj9 : (nI j).toNatClampNeg = j := nI_clamp (by omega)
  subst hi
  refine va_iald C.1 C.2.1 C.2.2.2.2.2.1.1 (pa_P1 h1) 0 0 rfl rfl (vp_in_nI hj (by omega)) dg ?_
  rw [hj9]
  exact k2
theorem pr_aldm (C : pa_C G x cc nL own d mc ms) (f : Nat) {g o n : Nat} {i : Int32} (j : Nat) (hg : 100 + f = g) (hty : pa_ty f = 12) (hn : pa_ln f = n) (hl : pa_lv h.2.2.1 (g, o)) (hi : i = nI j) (hj : j < n) (hn9 : n < 1000) (dg : decode cc pc = .ok (.iaload, 1)) (kk : pa_w G x nL h a b (pc + 1) lo (pv_i (h.2.1 f j) :: st)) : pa_w G x nL h a b pc lo (pv_i i :: pv_o g o :: st) := by
  obtain ⟨p, l, e, R, s, m, args, below, meth, c, Q, h0, ad0, al⟩ := x
  intro ad H locs ls q1 q2 q3 q4
  have h1 := q1.1 (g, o) hl
  rw [← hg, pa_ce_ar, show pa_ac f = 0 by simp [pa_ac, hty], hn, show pa_av ad h f o = .inl (h.2.1 f) by simp [pa_av, hty], hg] at h1
  have k2 := kk ad H locs ls q1 q2 q3 q4
  have hj9 : (nI j).toNatClampNeg = j := nI_clamp (by omega)
  subst hi
  refine va_iald C.1 C.2.1 C.2.2.2.2.2.1.1 (pa_P1 h1) 0 0 rfl rfl (vp_in_nI hj (by omega)) dg ?_
  rw [hj9]
  exact k2
theorem pr_aldb (C : pa_C G x cc nL own d mc ms) (f : Nat) {g o n : Nat} {i : Int32} (j : Nat) (hg : 100 + f = g) (hty : pa_ty f = 13) (hn : pa_ln f = n) (hl : pa_lv h.2.2.1 (g, o)) (hi : i = nI j) (hj : j < n) (hn9 : n < 1000) (dg : decode cc pc = .ok (.baload, 1)) (kk : pa_w G x nL h a b (pc + 1) lo (pv_i (h.2.1 f j) :: st)) : pa_w G x nL h a b pc lo (pv_i i :: pv_o g o :: st) := by
  obtain ⟨p, l, e, R, s, m, args, below, meth, c, Q, h0, ad0, al⟩ := x
  intro ad H locs ls q1 q2 q3 q4
  have h1 := q1.1 (g, o) hl
  rw [← hg, pa_ce_ar, show pa_ac f = 1 by simp [pa_ac, hty], hn, show pa_av ad h f o = .inl (h.2.1 f) by simp [pa_av, hty], hg] at h1
  have k2 := kk ad H locs ls q1 q2 q3 q4
  have hj9 : (nI j).toNatClampNeg = j := nI_clamp (by omega)
  subst hi
  refine va_zald C.1 C.2.1 C.2.2.2.2.2.1.1 (pa_P1 h1) 0 1 rfl rfl (vp_in_nI hj (by omega)) dg ?_
  rw [hj9]
  exact k2
theorem pr_aldt (C : pa_C G x cc nL own d mc ms) (f : Nat) {g o n : Nat} {i : Int32} (j : Nat) (hg : 100 + f = g) (hty : pa_ty f = 4) (hn : pa_ln f = n) (hl : pa_lv h.2.2.1 (g, o)) (hi : i = nI j) (hj : j < n) (hn9 : n < 1000) (dg : decode cc pc = .ok (.aaload, 1)) (kk : pa_w G x nL h a b (pc + 1) lo (pv_r (pa_rc 3 (h.1 f o j)) :: st)) : pa_w G x nL h a b pc lo (pv_i i :: pv_o g o :: st) := by
  obtain ⟨p, l, e, R, s, m, args, below, meth, c, Q, h0, ad0, al⟩ := x
  intro ad H locs ls q1 q2 q3 q4
  have h1 := q1.1 (g, o) hl
  rw [← hg, pa_ce_ar, show pa_ac f = 2 by simp [pa_ac, hty], hn, show pa_av ad h f o = pa_rw (fun j => (pa_rc 3 (h.1 f o j)).map ad) by simp [pa_av, hty], hg] at h1
  have k2 := kk ad H locs ls q1 q2 q3 q4
  have hj9 : (nI j).toNatClampNeg = j := nI_clamp (by omega)
  subst hi
  refine va_aldq C.1 C.2.1 C.2.2.2.2.2.1.1 (pa_P1 h1) 0 2 rfl rfl (vp_in_nI hj (by omega)) dg ?_
  rw [hj9, ← pa_tr_r]
  exact k2
theorem pr_alds (C : pa_C G x cc nL own d mc ms) (f : Nat) {g o n : Nat} {i : Int32} (j : Nat) (hg : 100 + f = g) (hty : pa_ty f = 5) (hn : pa_ln f = n) (hl : pa_lv h.2.2.1 (g, o)) (hi : i = nI j) (hj : j < n) (hn9 : n < 1000) (dg : decode cc pc = .ok (.aaload, 1)) (kk : pa_w G x nL h a b (pc + 1) lo (pv_o 1 j :: st)) : pa_w G x nL h a b pc lo (pv_i i :: pv_o g o :: st) := by
  obtain ⟨p, l, e, R, s, m, args, below, meth, c, Q, h0, ad0, al⟩ := x
  intro ad H locs ls q1 q2 q3 q4
  have h1 := q1.1 (g, o) hl
  rw [← hg, pa_ce_ar, show pa_ac f = 3 by simp [pa_ac, hty], hn, show pa_av ad h f o = pa_rw (fun j => some (ad (1, j))) by simp [pa_av, hty], hg] at h1
  have k2 := kk ad H locs ls q1 q2 q3 q4
  have hj9 : (nI j).toNatClampNeg = j := nI_clamp (by omega)
  subst hi
  refine va_aldq C.1 C.2.1 C.2.2.2.2.2.1.1 (pa_P1 h1) 0 3 rfl rfl (vp_in_nI hj (by omega)) dg ?_
  rw [hj9]
  exact k2
-- fields are written
/-- .. and the field isn't final; it takes the value v -/
def pa_fp (own : String) (ix k j : Nat) (ty : FieldType) : Prop := 1 ≤ k ∧ k < 6 ∧ ∃ (q : vw_C) (ty0 : Nat → FieldType), vwCl[k]? = some q ∧ j < q.2.2 ∧ q.2.2 = pa_nf k ∧ (∀ w ∈ u_ws q.1 q.2.1 q.2.2, w ∈ pa_wl) ∧ Cond.fieldLink own ix (q.2.1 j).1 (q.2.1 j).2.1 (q.2.1 j).2.2.1 ∈ pa_wl ∧
  (∀ k, k < q.2.2 → parseFieldDescriptor (q.2.1 k).2.2.1 = some (ty0 k)) ∧ (∀ a, a < q.2.2 → ∀ b, b < q.2.2 → a ≠ b → (q.2.1 a).2.1 ≠ (q.2.1 b).2.1) ∧ (q.2.1 j).2.2.2 = false ∧ parseFieldDescriptor (q.2.1 j).2.2.1 = some ty
theorem pr_putf (C : pa_C G x cc nL own d mc ms) {ix k j i : Nat} {ty : FieldType} (F : pa_fp own ix k j ty) (hl : pa_lv h.2.2.1 (k, i)) {v : pa_V} {h' : pa_H} (hN : h'.2.2.1 = h.2.2.1) (hce : ∀ (ad : pa_Nm → Nat) (m : pa_Nm), m ≠ (k, i) → pa_lv h.2.2.1 m → pa_ce G ad h' m = pa_ce G ad h m)
    (hfs : ∀ (ad : pa_Nm → Nat) (q : Nat), q < pa_nf k → pa_fv ad h' (40 * k + q) i = if q = j then pa_tr ad v else pa_fv ad h (40 * k + q) i) (hnr : ∀ ad, narrow ty (pa_tr ad v) = pa_tr ad v) (hft : ∀ ad, fits ty (pa_tr ad v) = true)
    (dg : decode cc pc = .ok (.putfield ix, 3)) (kk : pa_w G x nL h' a b (pc + 3) lo st) : pa_w G x nL h a b pc lo (v :: pv_o k i :: st) := by
  obtain ⟨p, l, e, R, s, m, args, below, meth, c, Q, h0, ad0, al⟩ := x
  intro ad H locs ls q1 q2 q3 q4
  obtain ⟨f1, f2, ⟨Cn, T, Nn⟩, ty0, f3, f4, f5, f6, f7, f8, f9, f10, f11⟩ := F
  obtain ⟨hx, hb, -, hown, hts, hU, -⟩ := C
  dsimp only at f4 f5 f6 f7 f8 f9 f10 f11
  have h1 := q1.1 (k, i) hl
  rw [pa_ce_ob G ad h i f1 f2] at h1
  have hap := va_apart (own := own) hts f6 ty0 f8 f9 hU.1 f3
  obtain ⟨r, g1, cell, e1, e2, e3, e4⟩ := h1
  have hr : r = (Cn, T, Nn) := Option.some.inj (g1.symm.trans f3)
  subst hr
  obtain ⟨hS, hfc, kC, hkC, hkind⟩ := hU.1.1 k _ f3
  obtain ⟨cf, kf, fi, fd, hi, hsl⟩ := hS j f4
  have hlay := hts _ (f6 _ (u_in_lay f4))
  unfold u_lay at hlay
  rw [if_neg (by rw [f10]; decide)] at hlay
  have hst := (u_facts hfc hkC (u_lays hts f6 f4) hi).1
  have h6 := u_store hfc hkC hkind hlay hi f11 (hnr ad) (hft ad)
  refine W.putK hx hb (f := fd) ⟨hown, hts _ f7, ⟨_, _, _, hi⟩, hst⟩ (by rw [e2]; exact h6) e1 e3 (by rw [hsl]; exact k2_hasslot (e4 j f4)) rfl rfl dg fun H' z1 z2 z3 => ?_
  rw [hsl] at z1
  refine kk ad H' _ ls (pa_R_set q1 hN hl (hce ad) ?_ z2 z3) (by unfold pa_an at q2 ⊢; rw [hN]; exact q2) (q3.put z2 z3 (q1.2.2.1 _ hl)) q4
  rw [pa_ce_ob G ad h' i f1 f2]
  refine ⟨(Cn, T, Nn), f3, t_OB.to (V := updV (vp_V (pa_fs ad h k i (pa_nf k))) j (pa_tr ad v)) ⟨_, z1, e2, e3, t_set e4 hap f4 (pa_tr ad v)⟩ (fun q hq => ?_)⟩
  have hq9 : q < pa_nf k := by
    have : q < Nn := hq
    omega
  unfold vp_V updV
  rw [List.getD_eq_getElem?_getD, pa_fs_get ad h' k i _ q hq9, Option.getD_some, hfs ad q hq9]
  by_cases hqj : q = j
  · rw [if_pos hqj, if_pos hqj]
  · rw [if_neg hqj, if_neg hqj]
    show (pa_fs ad h k i (pa_nf k)).getD q .null = _
    rw [List.getD_eq_getElem?_getD, pa_fs_get ad h k i _ q hq9, Option.getD_some]
theorem pa_fv_up {ad : pa_Nm → Nat} {h : pa_H} {f g i : Nat} {v : Int32} (hg : g ≠ f) : pa_fv ad (pa_up h.1 f i 0 v, h.2) g i = pa_fv ad h g i := by
  unfold pa_fv
  have e0 : (pa_up h.1 f i 0 v) g i 0 = h.1 g i 0 := by
    unfold pa_up
    rw [if_neg (fun z => hg z.1)]
  simp only [e0]
theorem pa_up_self (K : Nat → Nat → Nat → Int32) (f o j : Nat) (v : Int32) : pa_up K f o j v f o j = v := by
  unfold pa_up
  rw [if_pos ⟨rfl, rfl, rfl⟩]
theorem pa_us_self (S : Nat → Nat → Int32) (f j : Nat) (v : Int32) : pa_us S f j v f j = v := by
  unfold pa_us
  rw [if_pos ⟨rfl, rfl⟩]
theorem pr_puti (C : pa_C G x cc nL own d mc ms) (f : Nat) {ix k j i : Nat} {v : Int32} (F : pa_fp own ix k j .int) (hf : 40 * k + j = f) (hj : j < 40) (hty : pa_ty f = 0) (h163 : f ≠ 163) (hl : pa_lv h.2.2.1 (k, i)) (dg : decode cc pc = .ok (.putfield ix, 3)) (kk : pa_w G x nL (pa_up h.1 f i 0 v, h.2) a b (pc + 3) lo st) : pa_w G x nL h a b pc lo (pv_i v :: pv_o k i :: st) := by
  have f1 := F.1
  have f2 := F.2.1
  refine pr_putf (h' := (pa_up h.1 f i 0 v, h.2)) C F hl rfl (fun ad m hm _ => pa_ce_up (by omega) (Or.inl hty) (by rw [show f / 40 = k by omega]; exact hm) h163) (fun ad q hq => ?_) (fun ad => rfl) (fun ad => rfl) dg kk
  by_cases hqj : q = j
  · rw [if_pos hqj, hqj, hf, pa_fv, if_pos (Or.inl hty)]
    dsimp only
    rw [pa_up_self]
    rfl
  · rw [if_neg hqj, pa_fv_up (by omega)]
theorem pr_putb (C : pa_C G x cc nL own d mc ms) (f : Nat) {ix k j i : Nat} {v : Int32} (F : pa_fp own ix k j .boolean) (hf : 40 * k + j = f) (hj : j < 40) (hty : pa_ty f = 8) (h163 : f ≠ 163) (hv : v = 0 ∨ v = 1) (hl : pa_lv h.2.2.1 (k, i)) (dg : decode cc pc = .ok (.putfield ix, 3)) (kk : pa_w G x nL (pa_up h.1 f i 0 v, h.2) a b (pc + 3) lo st) : pa_w G x nL h a b pc lo (pv_i v :: pv_o k i :: st) := by
  have f1 := F.1
  have f2 := F.2.1
  refine pr_putf (h' := (pa_up h.1 f i 0 v, h.2)) C F hl rfl (fun ad m hm _ => pa_ce_up (by omega) (Or.inr (Or.inl hty)) (by rw [show f / 40 = k by omega]; exact hm) h163) (fun ad q hq => ?_) (fun ad => by rcases hv with rfl | rfl <;> rfl) (fun ad => by rcases hv with rfl | rfl <;> rfl) dg kk
  by_cases hqj : q = j
  · rw [if_pos hqj, hqj, hf, pa_fv, if_pos (Or.inr hty)]
    dsimp only
    rw [pa_up_self]
    rfl
  · rw [if_neg hqj, pa_fv_up (by omega)]
/-- a Turn or null into a field, by its code -/
theorem pr_putt (C : pa_C G x cc nL own d mc ms) (f : Nat) {ix k j i : Nat} {r : Option pa_Nm} (w : Int32) (F : pa_fp own ix k j (.object "ParleyRoom$Turn")) (hf : 40 * k + j = f) (hj : j < 40) (hty : pa_ty f = 2) (h163 : f ≠ 163) (hw : pa_rc 3 w = r) (hl : pa_lv h.2.2.1 (k, i)) (dg : decode cc pc = .ok (.putfield ix, 3)) (kk : pa_w G x nL (pa_up h.1 f i 0 w, h.2) a b (pc + 3) lo st) : pa_w G x nL h a b pc lo (pv_r r :: pv_o k i :: st) := by
  have f1 := F.1
  have f2 := F.2.1
  refine pr_putf (h' := (pa_up h.1 f i 0 w, h.2)) C F hl rfl (fun ad m hm _ => pa_ce_up (by omega) (Or.inr (Or.inr (Or.inl hty))) (by rw [show f / 40 = k by omega]; exact hm) h163) (fun ad q hq => ?_) (fun ad => by cases r <;> rfl) (fun ad => by cases r <;> rfl) dg kk
  by_cases hqj : q = j
  · rw [if_pos hqj, hqj, hf, pa_fv, if_neg (by omega), if_pos hty]
    dsimp only
    rw [pa_up_self, hw, pa_tr_r]
  · rw [if_neg hqj, pa_fv_up (by omega)]
theorem pr_putm0 (C : pa_C G x cc nL own d mc ms) (f : Nat) {ix j : Nat} {v : Int32} {ty : FieldType} (F : pa_fp own ix 5 j ty) (hf : 200 + j = f) (hj : j < 40) (hty : pa_ty f = 10 ∨ pa_ty f = 11) (hl : pa_lv h.2.2.1 (5, 0)) (hnr : narrow ty (.int v) = .int v) (hft : fits ty (.int v) = true) (dg : decode cc pc = .ok (.putfield ix, 3)) (kk : pa_w G x nL (h.1, pa_us h.2.1 f 0 v, h.2.2) a b (pc + 3) lo st) : pa_w G x nL h a b pc lo (pv_i v :: pv_o 5 0 :: st) := by
  refine pr_putf (h' := (h.1, pa_us h.2.1 f 0 v, h.2.2)) C F hl rfl (fun ad m hm hm2 => pa_ce_us ⟨by omega, by omega⟩ (Or.inl hm) hm2 (by omega)) (fun ad q hq => ?_) (fun ad => hnr) (fun ad => hft) dg kk
  by_cases hqj : q = j
  · rw [if_pos hqj, hqj, hf, pa_fv, if_neg (by omega), if_neg (by omega), if_neg (by omega), if_neg (by omega), if_pos hty]
    dsimp only
    rw [pa_us_self]
    rfl
  · rw [if_neg hqj]
    unfold pa_fv
    have e0 : (pa_us h.2.1 f 0 v) (40 * 5 + q) 0 = h.2.1 (40 * 5 + q) 0 := by
      unfold pa_us
      rw [if_neg (fun z => by omega)]
    simp only [e0]
theorem pr_putm (C : pa_C G x cc nL own d mc ms) (f : Nat) {ix j : Nat} {v : Int32} (F : pa_fp own ix 5 j .int) (hf : 200 + j = f) (hj : j < 40) (hty : pa_ty f = 10) (hl : pa_lv h.2.2.1 (5, 0)) (dg : decode cc pc = .ok (.putfield ix, 3)) (kk : pa_w G x nL (h.1, pa_us h.2.1 f 0 v, h.2.2) a b (pc + 3) lo st) : pa_w G x nL h a b pc lo (pv_i v :: pv_o 5 0 :: st) :=
  pr_putm0 C f F hf hj (Or.inl hty) hl rfl rfl dg kk
theorem pr_putn (C : pa_C G x cc nL own d mc ms) (f : Nat) {ix j : Nat} {v : Int32} (F : pa_fp own ix 5 j .boolean) (hf : 200 + j = f) (hj : j < 40) (hty : pa_ty f = 11) (hv : v = 0 ∨ v = 1) (hl : pa_lv h.2.2.1 (5, 0)) (dg : decode cc pc = .ok (.putfield ix, 3)) (kk : pa_w G x nL (h.1, pa_us h.2.1 f 0 v, h.2.2) a b (pc + 3) lo st) : pa_w G x nL h a b pc lo (pv_i v :: pv_o 5 0 :: st) :=
  pr_putm0 C f F hf hj (Or.inr hty) hl (by rcases hv with rfl | rfl <;> rfl) (by rcases hv with rfl | rfl <;> rfl) dg kk
-- rows are written
theorem pa_lv_row {N : Nat → Nat} {n : pa_Nm} (h : pa_lv N n) : n.1 < 10 ∨ 100 ≤ n.1 := by
  unfold pa_lv at h
  by_cases c0 : n.1 < 10
  · exact Or.inl c0
  · rw [if_neg (by omega), if_neg (by omega), if_neg (by omega), if_neg (by omega), if_neg (by omega), if_neg (by omega)] at h
    exact Or.inr h.2.1
theorem pr_asti (C : pa_C G x cc nL own d mc ms) (f : Nat) {g o n : Nat} {i v : Int32} (j : Nat) (hg : 100 + f = g) (hf : 40 ≤ f) (hty : pa_ty f = 1) (hn : pa_ln f = n) (hl : pa_lv h.2.2.1 (g, o)) (hi : i = nI j) (hj : j < n) (hn9 : n < 1000) (dg : decode cc pc = .ok (.iastore, 1)) (kk : pa_w G x nL (pa_up h.1 f o j v, h.2) a b (pc + 1) lo st) : pa_w G x nL h a b pc lo (pv_i v :: pv_i i :: pv_o g o :: st) := by
  obtain ⟨p, l, e, R, s, m, args, below, meth, c, Q, h0, ad0, al⟩ := x
  intro ad H locs ls q1 q2 q3 q4
  have h1 := q1.1 (g, o) hl
  have hf163 : f ≠ 163 := fun q => by rw [q] at hty; revert hty; decide
  rw [← hg, pa_ce_ar, show pa_ac f = 0 by simp [pa_ac, hty], hn, show pa_av ad h f o = .inl (h.1 f o) by simp [pa_av, hty], hg] at h1
  have hj9 : (nI j).toNatClampNeg = j := nI_clamp (by omega)
  have hin := vp_in_nI hj (show n < 2 ^ 31 by omega)
  subst hi
  refine W.iast C.1 C.2.1 h1 ((C.2.2.2.2.2.1.1.2 0 _ rfl).1 n (fun j => .int (h.1 f o j))) (fun q => by cases q) (by show ¬ (nI j < 0 ∨ (arrV _ _ _).slots.size ≤ _); rw [arrV_size]; exact hin) rfl rfl dg fun H1 e1 z oq => ?_
  refine kk ad H1 _ ls (pa_R_set q1 rfl hl (fun m hm hm2 => pa_ce_ur hf (Or.inl hty) (by rw [hg]; exact hm) (pa_lv_row hm2) hf163) ?_ z oq) q2 (q3.put z oq (q1.2.2.1 _ hl)) q4
  rw [← hg, pa_ce_ar, show pa_ac f = 0 by simp [pa_ac, hty], hn, show pa_av ad (pa_up h.1 f o j v, h.2) f o = .inl (pa_up h.1 f o j v f o) by simp [pa_av, hty], hg]
  show H1[ad (g, o)]? = some (vp_cell (G.2.1 0) (n, .inl (pa_up h.1 f o j v f o)))
  have e2 : H1[ad (g, o)]? = some ((vp_cell (G.2.1 0) (n, .inl (h.1 f o))).setSlot (nI j).toNatClampNeg (.int v)) := e1
  rw [e2, vp_cell_i, vp_cell_i, arrV_store, hj9]
  congr 2
  funext q
  by_cases hq : q = j
  · subst hq
    simp [updV, pa_up_self]
  · simp [updV, pa_up, hq]
theorem pr_astm (C : pa_C G x cc nL own d mc ms) (f : Nat) {g n : Nat} {i v : Int32} (j : Nat) (hg : 100 + f = g) (hf : 200 ≤ f ∧ f < 240) (hty : pa_ty f = 12) (hn : pa_ln f = n) (hl : pa_lv h.2.2.1 (g, 0)) (hi : i = nI j) (hj : j < n) (hn9 : n < 1000) (dg : decode cc pc = .ok (.iastore, 1)) (kk : pa_w G x nL (h.1, pa_us h.2.1 f j v, h.2.2) a b (pc + 1) lo st) : pa_w G x nL h a b pc lo (pv_i v :: pv_i i :: pv_o g 0 :: st) := by
  obtain ⟨p, l, e, R, s, m, args, below, meth, c, Q, h0, ad0, al⟩ := x
  intro ad H locs ls q1 q2 q3 q4
  have h1 := q1.1 (g, 0) hl
  rw [← hg, pa_ce_ar, show pa_ac f = 0 by simp [pa_ac, hty], hn, show pa_av ad h f 0 = .inl (h.2.1 f) by simp [pa_av, hty], hg] at h1
  have hj9 : (nI j).toNatClampNeg = j := nI_clamp (by omega)
  have hin := vp_in_nI hj (show n < 2 ^ 31 by omega)
  subst hi
  refine W.iast C.1 C.2.1 h1 ((C.2.2.2.2.2.1.1.2 0 _ rfl).1 n (fun j => .int (h.2.1 f j))) (fun q => by cases q) (by show ¬ (nI j < 0 ∨ (arrV _ _ _).slots.size ≤ _); rw [arrV_size]; exact hin) rfl rfl dg fun H1 e1 z oq => ?_
  refine kk ad H1 _ ls (pa_R_set q1 rfl hl (fun m hm hm2 => pa_ce_us hf (Or.inr (Or.inl hty)) hm2 (Or.inr (Or.inr (by rw [hg]; exact hm)))) ?_ z oq) q2 (q3.put z oq (q1.2.2.1 _ hl)) q4
  rw [← hg, pa_ce_ar, show pa_ac f = 0 by simp [pa_ac, hty], hn, show pa_av ad (h.1, pa_us h.2.1 f j v, h.2.2) f 0 = .inl (pa_us h.2.1 f j v f) by simp [pa_av, hty], hg]
  show H1[ad (g, 0)]? = some (vp_cell (G.2.1 0) (n, .inl (pa_us h.2.1 f j v f)))
  have e2 : H1[ad (g, 0)]? = some ((vp_cell (G.2.1 0) (n, .inl (h.2.1 f))).setSlot (nI j).toNatClampNeg (.int v)) := e1
  rw [e2, vp_cell_i, vp_cell_i, arrV_store, hj9]
  congr 2
  funext q
  by_cases hq : q = j
  · subst hq
    simp [updV, pa_us_self]
  · simp [updV, pa_us, hq]
theorem pr_astb (C : pa_C G x cc nL own d mc ms) (f : Nat) {g n : Nat} {i v : Int32} (j : Nat) (hg : 100 + f = g) (hf : 200 ≤ f ∧ f < 240) (hty : pa_ty f = 13) (hn : pa_ln f = n) (hl : pa_lv h.2.2.1 (g, 0)) (hv : v = 0 ∨ v = 1) (hi : i = nI j) (hj : j < n) (hn9 : n < 1000) (dg : decode cc pc = .ok (.bastore, 1)) (kk : pa_w G x nL (h.1, pa_us h.2.1 f j v, h.2.2) a b (pc + 1) lo st) : pa_w G x nL h a b pc lo (pv_i v :: pv_i i :: pv_o g 0 :: st) := by
  obtain ⟨p, l, e, R, s, m, args, below, meth, c, Q, h0, ad0, al⟩ := x
  intro ad H locs ls q1 q2 q3 q4
  have h1 := q1.1 (g, 0) hl
  rw [← hg, pa_ce_ar, show pa_ac f = 1 by simp [pa_ac, hty], hn, show pa_av ad h f 0 = .inl (h.2.1 f) by simp [pa_av, hty], hg] at h1
  have hj9 : (nI j).toNatClampNeg = j := nI_clamp (by omega)
  have hv9 : narrow .boolean (.int v) = .int v := by rcases hv with rfl | rfl <;> rfl
  have hin := vp_in_nI hj (show n < 2 ^ 31 by omega)
  subst hi
  refine W.zast C.1 C.2.1 h1 ((C.2.2.2.2.2.1.1.2 1 _ rfl).1 n (fun j => .int (h.2.1 f j))) (fun q => by cases q) (by show ¬ (nI j < 0 ∨ (arrV _ _ _).slots.size ≤ _); rw [arrV_size]; exact hin) rfl rfl dg fun H1 e1 z oq => ?_
  refine kk ad H1 _ ls (pa_R_set q1 rfl hl (fun m hm hm2 => pa_ce_us hf (Or.inr (Or.inr hty)) hm2 (Or.inr (Or.inr (by rw [hg]; exact hm)))) ?_ z oq) q2 (q3.put z oq (q1.2.2.1 _ hl)) q4
  rw [← hg, pa_ce_ar, show pa_ac f = 1 by simp [pa_ac, hty], hn, show pa_av ad (h.1, pa_us h.2.1 f j v, h.2.2) f 0 = .inl (pa_us h.2.1 f j v f) by simp [pa_av, hty], hg]
  show H1[ad (g, 0)]? = some (vp_cell (G.2.1 1) (n, .inl (pa_us h.2.1 f j v f)))
  have e2 : H1[ad (g, 0)]? = some ((vp_cell (G.2.1 1) (n, .inl (h.2.1 f))).setSlot (nI j).toNatClampNeg (narrow .boolean (.int v))) := e1
  rw [e2, vp_cell_i, vp_cell_i, arrV_store, hj9, hv9]
  congr 2
  funext q
  by_cases hq : q = j
  · subst hq
    simp [updV, pa_us_self]
  · simp [updV, pa_us, hq]
/-- a Turn or null into a row, by its code -/
theorem pr_astt (C : pa_C G x cc nL own d mc ms) (f : Nat) {g o n : Nat} {i : Int32} {r : Option pa_Nm} (j : Nat) (w : Int32) (hg : 100 + f = g) (hf : 40 ≤ f) (hty : pa_ty f = 4) (hn : pa_ln f = n) (hl : pa_lv h.2.2.1 (g, o)) (hw : pa_rc 3 w = r) (hr : ∀ z, r = some z → z.1 = 3 ∧ pa_lv h.2.2.1 z) (hi : i = nI j) (hj : j < n) (hn9 : n < 1000) (dg : decode cc pc = .ok (.aastore, 1)) (kk : pa_w G x nL (pa_up h.1 f o j w, h.2) a b (pc + 1) lo st) : pa_w G x nL h a b pc lo (pv_r r :: pv_i i :: pv_o g o :: st) := by
  obtain ⟨p, l, e, R, s, m, args, below, meth, c, Q, h0, ad0, al⟩ := x
  intro ad H locs ls q1 q2 q3 q4
  have h1 := q1.1 (g, o) hl
  have hf163 : f ≠ 163 := fun q => by rw [q] at hty; revert hty; decide
  rw [← hg, pa_ce_ar, show pa_ac f = 2 by simp [pa_ac, hty], hn, show pa_av ad h f o = pa_rw (fun j => (pa_rc 3 (h.1 f o j)).map ad) by simp [pa_av, hty], hg] at h1
  have hj9 : (nI j).toNatClampNeg = j := nI_clamp (by omega)
  have hin := vp_in_nI hj (show n < 2 ^ 31 by omega)
  subst hi
  have hfin : ∀ (H1 : Heap) (locs1 : List Loc), H1[ad (g, o)]? = some ((vp_cell (G.2.1 2) (n, pa_rw (fun j => (pa_rc 3 (h.1 f o j)).map ad))).setSlot j (pa_tr ad (pv_r r))) → H1.size = H.size → (∀ q : Nat, q ≠ ad (g, o) → H1[q]? = H[q]?) → va_S (pa_A G) s.heap H1 locs1 → W p l e R s m args below meth c H1 locs1 a b Q (F0 m (pc + 1) ls (st.map (pa_tr ad))) := by
    intro H1 locs1 e1 z oq hS
    refine kk ad H1 _ ls (pa_R_set q1 rfl hl (fun m hm hm2 => pa_ce_ur hf (Or.inr hty) (by rw [hg]; exact hm) (pa_lv_row hm2) hf163) ?_ z oq) q2 hS q4
    rw [← hg, pa_ce_ar, show pa_ac f = 2 by simp [pa_ac, hty], hn, show pa_av ad (pa_up h.1 f o j w, h.2) f o = pa_rw (fun q => (pa_rc 3 (pa_up h.1 f o j w f o q)).map ad) by simp [pa_av, hty], hg]
    show H1[ad (g, o)]? = some (vp_cell _ _)
    rw [e1, vp_cell_q, vp_cell_q, arrV_store]
    congr 2
    funext q
    by_cases hq : q = j
    · subst hq
      simp [updV, pa_up_self, hw, pa_tr_r]
    · simp [updV, pa_up, hq]
  cases r with
  | none =>
    refine va_WaastN (C := "ParleyRoom$Turn") C.1 C.2.1 h1 ((C.2.2.2.2.2.1.1.2 2 _ rfl).1 n (fun j => va_rf ((pa_rc 3 (h.1 f o j)).map ad))) (fun q => by cases q) (by show ¬ (nI j < 0 ∨ (arrV _ _ _).slots.size ≤ _); rw [arrV_size]; exact hin) rfl rfl dg fun H1 e1 z oq => ?_
    rw [hj9] at e1
    exact hfin H1 _ e1 z oq (q3.put z oq (q1.2.2.1 _ hl))
  | some t =>
    obtain ⟨t1, t2⟩ := t
    obtain ⟨ht1, htl⟩ := hr _ rfl
    dsimp only at ht1
    subst ht1
    have hv := q1.1 (3, t2) htl
    rw [pa_ce_ob G ad h t2 (by decide) (by decide)] at hv
    obtain ⟨r', hr', cellV, g1, g2, g3, -⟩ := hv
    have hK := C.2.2.2.2.2.1.1
    have hcls := (hK.1 3 _ rfl).2
    obtain ⟨kA, comp, k1, k2, k3, -⟩ := (hK.2 2 _ rfl).2
    have hcomp : comp = G.1.1 3 := Option.some.inj (k3.symm.trans hcls.1)
    subst hcomp
    obtain ⟨kC, hkC, -⟩ := id hcls.2
    refine W.aast C.1 C.2.1 h1 (fun q h => by cases h) (fun h => by cases h) k1 k2 rfl hkC ⟨fun q => hin (Or.inl q), by show _ < (arrV _ _ _).slots.size; rw [arrV_size, hj9]; exact hj⟩ g1 (fun q h => by rw [g3] at h; cases h) (by rw [g2]; exact hkC) (by rw [g2]; exact va_assign hcls) rfl rfl dg fun H1 e1 z oq => ?_
    rw [hj9] at e1
    exact hfin H1 _ e1 z oq (q3.put z oq (q1.2.2.1 _ hl))
-- the ends
/-- the aim of a walk: the end of a method whose contract is (al, mc, ms, post) -/
def pa_E (G : pa_G) (x : pa_X) (mc ms : Nat) (ret : Option FieldType) (post : Option pa_V → pa_H → Prop) : Prop :=
  match x with
  | (_, _, _, _, s, _, args, below, meth, _, Q, h0, ad0, al) => meth.sig.returnType = ret ∧ G.2.2.1 ≤ s.heap.size ∧ (∀ t, MQ below (pa_Q G al h0 ad0 post) args s mc ms (pa_A G) t → Q t)
theorem pa_mono {p : Program} {l : Launch} {e : Env} {R : Room} {s : State} {m : MethodId} {args : Array Value} {below : List Frame} {meth : Method} {c : Code} {H : Heap} {locs : List Loc} {cells slots : Nat} {Q Q' : State → Prop} {g : JFrame} (hq : ∀ t, Q t → Q' t) (k : W p l e R s m args below meth c H locs cells slots Q g) : W p l e R s m args below meth c H locs cells slots Q' g := fun T hT X => by
  obtain ⟨t, a, b⟩ := k T hT X
  exact ⟨t, a, hq t b⟩
theorem pr_iret (C : pa_C G x cc nL own d mc ms) {mc' ms' : Nat} {ret : Option FieldType} {post : Option pa_V → pa_H → Prop} (E : pa_E G x mc' ms' ret post) {v : Int32} (hr : ret = some .int ∨ (ret = some .boolean ∧ (v = 0 ∨ v = 1))) (ha : a ≤ mc') (hb : b ≤ ms') (hp : post (some (pv_i v)) h) (dg : decode cc pc = .ok (.ireturn, 1)) : pa_w G x nL h a b pc lo [pv_i v] := by
  obtain ⟨p, l, e, R, s, m, args, below, meth, c, Q, h0, ad0, al⟩ := x
  intro ad H locs ls q1 q2 q3 q4
  obtain ⟨e1, e2, e3⟩ := E
  have hlk : meth.locks = false := C.2.2.2.2.2.2.2.2.2.2.1
  refine pa_mono e3 (W.widen ha hb ?_)
  have key : ∀ t : State, t.heap = H → s.WarmedH t.vm → pa_Q G al h0 ad0 post args s (.returned (some (.int v))) t := fun t ht _ => ⟨⟨some (pv_i v), h, ad, rfl, hp, by rw [ht]; exact q1, q2⟩, q3.F ht⟩
  rcases hr with hr | ⟨hr, hv⟩
  · exact W.iret C.1 C.2.1 (e1.trans hr) key q3.2.2 dg
  · exact W.zret C.1 C.2.1 (e1.trans hr) (by rcases hv with rfl | rfl <;> rfl) key q3.2.2 dg
theorem pr_vret (C : pa_C G x cc nL own d mc ms) {mc' ms' : Nat} {post : Option pa_V → pa_H → Prop} (E : pa_E G x mc' ms' none post) (ha : a ≤ mc') (hb : b ≤ ms') (hp : post none h) (dg : decode cc pc = .ok (.return_, 1)) : pa_w G x nL h a b pc lo [] := by
  obtain ⟨p, l, e, R, s, m, args, below, meth, c, Q, h0, ad0, al⟩ := x
  intro ad H locs ls q1 q2 q3 q4
  obtain ⟨e1, e2, e3⟩ := E
  have hlk : meth.locks = false := C.2.2.2.2.2.2.2.2.2.2.1
  refine pa_mono e3 (W.widen ha hb ?_)
  have key : ∀ t : State, t.heap = H → s.WarmedH t.vm → pa_Q G al h0 ad0 post args s (.returned none) t := fun t ht _ => ⟨⟨none, h, ad, rfl, hp, by rw [ht]; exact q1, q2⟩, q3.F ht⟩
  exact W.vret C.1 C.2.1 e1 key q3.2.2 dg
theorem pr_aret (C : pa_C G x cc nL own d mc ms) {mc' ms' : Nat} {n9 : String} {post : Option pa_V → pa_H → Prop} (E : pa_E G x mc' ms' (some (.object n9)) post) {r : Option pa_Nm} (ha : a ≤ mc') (hb : b ≤ ms') (hp : post (some (pv_r r)) h) (dg : decode cc pc = .ok (.areturn, 1)) : pa_w G x nL h a b pc lo [pv_r r] := by
  obtain ⟨p, l, e, R, s, m, args, below, meth, c, Q, h0, ad0, al⟩ := x
  intro ad H locs ls q1 q2 q3 q4
  obtain ⟨e1, e2, e3⟩ := E
  have hlk : meth.locks = false := C.2.2.2.2.2.2.2.2.2.2.1
  refine pa_mono e3 (W.widen ha hb ?_)
  have key : ∀ t : State, t.heap = H → s.WarmedH t.vm → pa_Q G al h0 ad0 post args s (.returned (some (pa_tr ad (pv_r r)))) t := fun t ht _ => ⟨⟨some (pv_r r), h, ad, rfl, hp, by rw [ht]; exact q1, q2⟩, q3.F ht⟩
  exact W.aret C.1 C.2.1 e1 (Or.inl ⟨n9, rfl⟩) (by cases r with | none => exact Or.inl rfl | some n => exact Or.inr ⟨_, rfl⟩) key q3.2.2 dg
-- calls
/-- what the tables say of the call by the entry ix of the class own: of the method y of an object of the kind k, with n arguments -/
def pa_cv (own : String) (ix : Nat) (y : pa_Y) (k n : Nat) : Prop := Cond.methodLink own ix y.1 ∈ pa_wl ∧ Cond.instanceMethod y.1 ∈ pa_wl ∧ Cond.selects y.1.cls y.1 y.1 ∈ pa_wl ∧ Cond.initialized y.1.cls ∈ pa_wl ∧ Cond.code y.1 y.2.1 y.2.2.1 y.2.2.2 ∈ pa_wl ∧
  (y.1.cls ≠ "java/lang/invoke/MethodHandle" ∧ y.1.cls ≠ "java/lang/invoke/VarHandle") ∧ (parseMethodDescriptor y.1.desc).map (fun d => d.parameters.length) = some n ∧ y.2.2.1 ≤ 11 ∧ ∃ q : vw_C, vwCl[k]? = some q ∧ q.1 = y.1.cls
def pa_cs (own : String) (ix : Nat) (y : pa_Y) (n : Nat) : Prop := Cond.methodLink own ix y.1 ∈ pa_wl ∧ Cond.static y.1 ∈ pa_wl ∧ Cond.initialized y.1.cls ∈ pa_wl ∧ Cond.code y.1 y.2.1 y.2.2.1 y.2.2.2 ∈ pa_wl ∧
  (y.1.cls ≠ "java/lang/invoke/MethodHandle" ∧ y.1.cls ≠ "java/lang/invoke/VarHandle") ∧ (parseMethodDescriptor y.1.desc).map (fun d => d.parameters.length) = some n ∧ y.2.2.1 ≤ 11
/-- .. of a nest mate's private static method -/
def pa_cn (own : String) (ix : Nat) (y : pa_Y) (n : Nat) : Prop := ((own = RX2 ∧ ix = 55 ∧ y.1 = yX3_isIn) ∨ (own = RX2 ∧ ix = 65 ∧ y.1 = yX3_isAtom)) ∧ Cond.static y.1 ∈ pa_wl ∧ Cond.initialized y.1.cls ∈ pa_wl ∧ Cond.code y.1 y.2.1 y.2.2.1 y.2.2.2 ∈ pa_wl ∧
  (y.1.cls ≠ "java/lang/invoke/MethodHandle" ∧ y.1.cls ≠ "java/lang/invoke/VarHandle") ∧ (parseMethodDescriptor y.1.desc).map (fun d => d.parameters.length) = some n ∧ y.2.2.1 ≤ 11
theorem pa_ws_all {args : Array Value} {s : State} {y : pa_Y} (hc : Cond.code y.1 y.2.1 y.2.2.1 y.2.2.2 ∈ pa_wl) (h : ∀ w ∈ pa_wl, w.before args s = true) : ∀ w ∈ pa_ws y, ∀ (a' : Array Value) (U : State), s.WarmedH U.vm → w.before a' U = true := by
  intro w hw a' U hW
  rcases List.mem_cons.mp hw with e | hw
  · rw [e]
    exact word_at hW (good_of_word (pa_wg hc)) (h _ hc)
  · exact word_at hW (good_of_word (pa_wg hw)) (h w hw)
theorem pa_cb {R : Room} {s : State} {args : Array Value} {own : String} {ix n d' d mc ms : Nat} {y : pa_Y} (hts : ∀ w ∈ pa_wl, w.before args s = true) (hf : d ≤ R.frames) (hlo : 30 * d ≤ R.locals) (hd : d' + 1 ≤ d) (h1 : Cond.methodLink own ix y.1 ∈ pa_wl) (h4 : Cond.initialized y.1.cls ∈ pa_wl) (h5 : Cond.code y.1 y.2.1 y.2.2.1 y.2.2.2 ∈ pa_wl) (h6 : y.1.cls ≠ "java/lang/invoke/MethodHandle" ∧ y.1.cls ≠ "java/lang/invoke/VarHandle") (h7 : (parseMethodDescriptor y.1.desc).map (fun d => d.parameters.length) = some n) (h8 : y.2.2.1 ≤ 11) :
    CallB R s args own ix y.1 y.2.1 y.2.2.1 y.2.2.2 (pa_ws y) (pa_rm d' mc ms) mc ms n := by
  refine ⟨rfl, rfl, by show d' + 1 ≤ R.frames; omega, by show 8 + (y.2.2.1 + 11) + 30 * d' ≤ R.locals; omega, pa_ws_all h5 hts, List.mem_cons_self, hts _ h5, hts _ h4, h6, fun sig h => ?_, hts _ h1⟩
  rw [h] at h7
  exact (Option.some.inj h7).symm
theorem pa_room {m : MethodId} {ls : Array Slot} {st0 : List Value} (ad : pa_Nm → Nat) (rest : List pa_V) (h : rest.length ≤ 4) : 2 * (F0 m pc ls st0).monitorRoom + ((rest.map (pa_tr ad)).map fun v => v.category).sum ≤ 8 := by
  refine lv_room ?_
  have key : ∀ (l : List pa_V), ((l.map (pa_tr ad)).map fun v => v.category).sum ≤ 2 * l.length := by
    intro l
    induction l with
    | nil => simp
    | cons v l ih =>
      have hv : (pa_tr ad v).category ≤ 2 := by rcases lv_cat (pa_tr ad v) with h | h <;> omega
      simp only [List.map_cons, List.sum_cons, List.length_cons]
      omega
  have := key rest
  omega
/-- behind a call: what the callee promised -/
theorem pa_back {p : Program} {l : Launch} {e : Env} {R : Room} {s : State} {m : MethodId} {args : Array Value} {below : List Frame} {meth : Method} {c : Code} {Q : State → Prop} {h0 : pa_H} {ad0 : pa_Nm → Nat} {al al' : Bool} {ad : pa_Nm → Nat} {H : Heap} {locs : List Loc} {ls : Array Slot} {st0 : List Value} {rest : List pa_V} {av : Array Value} {mc' ms' : Nat} {post : Option pa_V → pa_H → Prop}
    (hr : va_Run p l e R s m args below meth c H locs a b mc' ms' (F0 m pc ls st0) (rest.map (pa_tr ad)) (pa_Q G al' h ad post av) (pa_A G))
    (q2 : pa_an al h0 ad0 h ad) (q3 : va_S (pa_A G) s.heap H locs) (hal : al = false → al' = false)
    (kk : ∀ (r : Option pa_V) (h' : pa_H) (ad' : pa_Nm → Nat) (H1 : Heap) (locs1 : List Loc), post r h' → pa_an al' h ad h' ad' → pa_R G ad' h' H1 → pa_an al h0 ad0 h' ad' → va_S (pa_A G) s.heap H1 locs1 → W p l e R s m args below meth c H1 locs1 (a + mc') (b + ms') Q (F0 m (pc + 3) ls ((r.map (pa_tr ad')).toList ++ rest.map (pa_tr ad)))) : W p l e R s m args below meth c H locs a b Q (F0 m pc ls st0) := by
  intro T hT X
  obtain ⟨v, st₀, t, T', L, g0, X', hL, e1, e2, ⟨⟨r, h', ad', hoc, hp, hR, han⟩, hF⟩, hst⟩ := hr T hT X
  cases hoc
  obtain ⟨k1, k2, k3⟩ := vx_keep g0 e1 q3 (fun _ _ z => z) (fun _ z => z) hL hF
  obtain ⟨t2, a1, b1⟩ := kk r h' ad' T'.heap (locs ++ L) hp han (by rw [e1]; exact hR) (pa_an_tr q2 han hal) k3 T' rfl X'
  exact ⟨t2, hst t2 a1, b1⟩
/-- values that name cells in use -/
def pa_ok (N : Nat → Nat) : pa_V → Prop
  | .inr (.inr (some n)) => n.1 ≠ 8 ∧ pa_lv N n
  | _ => True
theorem pa_ok_tr {h : pa_H} {ad ad' : pa_Nm → Nat} (hag : pa_ag h ad ad') : ∀ {v : pa_V}, pa_ok h.2.2.1 v → pa_tr ad' v = pa_tr ad v
  | .inl _, _ => rfl
  | .inr (.inl _), _ => rfl
  | .inr (.inr none), _ => rfl
  | .inr (.inr (some n)), h => congrArg Value.ref (hag n h.1 h.2)
def pa_okl (N : Nat → Nat) : List pa_V → Prop
  | [] => True
  | v :: l => pa_ok N v ∧ pa_okl N l
def pa_oko (N : Nat → Nat) : List (Option pa_V) → Prop
  | [] => True
  | none :: l => pa_oko N l
  | some v :: l => pa_ok N v ∧ pa_oko N l
theorem pa_okl_tr {h : pa_H} {ad ad' : pa_Nm → Nat} (hag : pa_ag h ad ad') : ∀ {l : List pa_V}, pa_okl h.2.2.1 l → l.map (pa_tr ad') = l.map (pa_tr ad)
  | [], _ => rfl
  | v :: l, hh => by rw [List.map_cons, List.map_cons, pa_ok_tr hag hh.1, pa_okl_tr hag hh.2]
theorem pa_oko_at {N : Nat → Nat} : ∀ {l : List (Option pa_V)}, pa_oko N l → ∀ {j : Nat} {v : pa_V}, l[j]? = some (some v) → pa_ok N v
  | [], _, j, v, h => by simp at h
  | none :: l, hh, j, v, h => by
    cases j with
    | zero => simp at h
    | succ j => exact pa_oko_at (l := l) hh (by simpa using h)
  | some w :: l, hh, j, v, h => by
    cases j with
    | zero =>
      simp at h
      rw [← h]
      exact hh.1
    | succ j => exact pa_oko_at (l := l) hh.2 (by simpa using h)
theorem pa_Lo_ok {h : pa_H} {ad ad' : pa_Nm → Nat} {ls : Array Slot} (hag : pa_ag h ad ad') (ho : pa_oko h.2.2.1 lo) (q : pa_Lo ad ls nL lo) : pa_Lo ad' ls nL lo :=
  ⟨q.1, q.2.1, fun j v hv => by rw [pa_ok_tr hag (pa_oko_at ho hv)]; exact q.2.2 j v hv⟩
theorem pa_preV {k i n : Nat} {y : pa_Y} {As : List pa_V} {s : State} {H : Heap} {locs : List Loc} {ad : pa_Nm → Nat} {ix : Nat} (hU : pa_U G s) (hZ : pa_Zs G s s.heap) (q3 : va_S (pa_A G) s.heap H locs) (hk : k < 6) (cs : pa_cv own ix y k n) (hl : pa_lv h.2.2.1 (k, i)) (q1 : pa_R G ad h H) : PreV s H y.1.cls (ad (k, i)) (pa_P G (pv_o k i :: As) h ad) (As.map (pa_tr ad)) := by
  obtain ⟨-, -, -, -, -, -, -, -, q, g1, g2⟩ := cs
  refine ⟨pa_P_bl, ?_, fun U hU9 hW => ⟨rfl, by rw [hU9]; exact q1, hU.warm hW, hZ.at q3 hU9 hW⟩⟩
  have h1 := q1.1 (k, i) hl
  have h2 : ∃ fs, pa_ce G ad h (k, i) = .inr (k, fs) := by
    unfold pa_ce
    dsimp only
    by_cases c0 : k = 0
    · rw [if_pos c0, c0]
      exact ⟨_, rfl⟩
    · rw [if_neg c0, if_pos hk]
      exact ⟨_, rfl⟩
  obtain ⟨fs, h2⟩ := h2
  rw [h2] at h1
  have := va_recv hU.1 (pa_P1 h1) g1 (q0 := 0) rfl
  rw [g2] at this
  exact this
theorem pr_callV0 (C : pa_C G x cc nL own d mc ms) {y : pa_Y} {d' k i ix n mc' ms' : Nat} {al' : Bool} {As rest : List pa_V} {post : Option pa_V → pa_H → Prop} (hM : pa_M G x.2.1 y d' al' (pv_o k i :: As) h mc' ms' post) (cs : pa_cv own ix y k n) (hn : As.length = n) (hd : d' + 1 ≤ d) (hk : k < 6) (hl : pa_lv h.2.2.1 (k, i)) (hr : rest.length ≤ 4) (ha : a + mc' ≤ mc) (hb : b + ms' ≤ ms)
    (hal : x.2.2.2.2.2.2.2.2.2.2.2.2.2 = false → al' = false) (hok : al' = true → pa_okl h.2.2.1 rest ∧ pa_oko h.2.2.1 lo) (dg : decode cc pc = .ok (.invokevirtual ix, 3)) (kk : ∀ (r : Option pa_V) (h' : pa_H), post r h' → pa_w G x nL h' (a + mc') (b + ms') (pc + 3) lo (r.toList ++ rest)) : pa_w G x nL h a b pc lo (As.reverse ++ pv_o k i :: rest) := by
  obtain ⟨p, l, e, R, s, m, args, below, meth, c, Q, h0, ad0, al⟩ := x
  intro ad H locs ls q1 q2 q3 q4
  obtain ⟨hx, hb9, hml, hown, hts, hU, hf, hlo, hc9, hs9, -, hZ⟩ := C
  have cw : CallW R s args own y.1.cls ix y.1 y.2.1 y.2.2.1 y.2.2.2 (pa_ws y) (pa_rm d' mc' ms') mc' ms' n := ⟨pa_cb hts hf hlo hd cs.1 cs.2.2.2.1 cs.2.2.2.2.1 cs.2.2.2.2.2.1 cs.2.2.2.2.2.2.1 cs.2.2.2.2.2.2.2.1, hts _ cs.2.1, hts _ cs.2.2.1⟩
  refine pa_back (rest := rest) (va_runV (b := ad (k, i)) (As := As.map (pa_tr ad)) (rest := rest.map (pa_tr ad)) ⟨hx, hb9, hml, hown, hts⟩ (hM ad) cw (pa_preV hU hZ q3 hk cs hl q1) rfl (by rw [List.length_map]; exact hn) q4.1 ?_ (pa_room ad rest hr) dg ⟨by omega, by omega⟩) q2 q3 hal fun r h' ad' H1 locs1 hp han hR hq2 hq3 => ?_
  · show (As.reverse ++ pv_o k i :: rest).map (pa_tr ad) = _
    rw [List.map_append, List.map_reverse]
    rfl
  · have k2 := kk r h' hp ad' H1 locs1 ls hR hq2 hq3
    cases hal9 : al' with
    | false =>
      have e9 : ad' = ad := han.2.1 hal9
      subst e9
      have k3 := k2 q4
      rw [List.map_append] at k3
      cases r <;> exact k3
    | true =>
      obtain ⟨o1, o2⟩ := hok hal9
      have k3 := k2 (pa_Lo_ok han.1 o2 q4)
      rw [List.map_append, pa_okl_tr han.1 o1] at k3
      cases r <;> exact k3
theorem pr_callS0 (C : pa_C G x cc nL own d mc ms) {y : pa_Y} {d' ix n mc' ms' : Nat} {al' : Bool} {As rest : List pa_V} {post : Option pa_V → pa_H → Prop} (hM : pa_M G x.2.1 y d' al' As h mc' ms' post) (cs : pa_cs own ix y n) (hn : As.length = n) (hd : d' + 1 ≤ d) (hr : rest.length ≤ 4) (ha : a + mc' ≤ mc) (hb : b + ms' ≤ ms)
    (hal : x.2.2.2.2.2.2.2.2.2.2.2.2.2 = false → al' = false) (hok : al' = true → pa_okl h.2.2.1 rest ∧ pa_oko h.2.2.1 lo) (dg : decode cc pc = .ok (.invokestatic ix, 3)) (kk : ∀ (r : Option pa_V) (h' : pa_H), post r h' → pa_w G x nL h' (a + mc') (b + ms') (pc + 3) lo (r.toList ++ rest)) : pa_w G x nL h a b pc lo (As.reverse ++ rest) := by
  obtain ⟨p, l, e, R, s, m, args, below, meth, c, Q, h0, ad0, al⟩ := x
  intro ad H locs ls q1 q2 q3 q4
  obtain ⟨hx, hb9, hml, hown, hts, hU, hf, hlo, hc9, hs9, -, hZ⟩ := C
  have cw : CallB R s args own ix y.1 y.2.1 y.2.2.1 y.2.2.2 (pa_ws y) (pa_rm d' mc' ms') mc' ms' n ∧ (Cond.static y.1).before args s = true := ⟨pa_cb hts hf hlo hd cs.1 cs.2.2.1 cs.2.2.2.1 cs.2.2.2.2.1 cs.2.2.2.2.2.1 cs.2.2.2.2.2.2, hts _ cs.2.1⟩
  refine pa_back (rest := rest) (va_runS (As := As.map (pa_tr ad)) (rest := rest.map (pa_tr ad)) ⟨hx, hb9, hml, hown, hts⟩ (hM ad) cw ⟨pa_P_bl, fun U hU9 hW => ⟨rfl, by rw [hU9]; exact q1, hU.warm hW, hZ.at q3 hU9 hW⟩⟩ rfl (by rw [List.length_map]; exact hn) q4.1 ?_ (pa_room ad rest hr) dg ⟨by omega, by omega⟩) q2 q3 hal fun r h' ad' H1 locs1 hp han hR hq2 hq3 => ?_
  · show (As.reverse ++ rest).map (pa_tr ad) = _
    rw [List.map_append, List.map_reverse]
  · have k2 := kk r h' hp ad' H1 locs1 ls hR hq2 hq3
    cases hal9 : al' with
    | false =>
      have e9 : ad' = ad := han.2.1 hal9
      subst e9
      have k3 := k2 q4
      rw [List.map_append] at k3
      cases r <;> exact k3
    | true =>
      obtain ⟨o1, o2⟩ := hok hal9
      have k3 := k2 (pa_Lo_ok han.1 o2 q4)
      rw [List.map_append, pa_okl_tr han.1 o1] at k3
      cases r <;> exact k3
theorem pr_callN0 (C : pa_C G x cc nL own d mc ms) {y : pa_Y} {d' ix n mc' ms' : Nat} {As rest : List pa_V} {post : Option pa_V → pa_H → Prop} (hM : pa_M G x.2.1 y d' false As h mc' ms' post) (cs : pa_cn own ix y n) (hn : As.length = n) (hd : d' + 1 ≤ d) (hr : rest.length ≤ 4) (ha : a + mc' ≤ mc) (hb : b + ms' ≤ ms)
    (dg : decode cc pc = .ok (.invokestatic ix, 3)) (kk : ∀ (r : Option pa_V) (h' : pa_H), post r h' → pa_w G x nL h' (a + mc') (b + ms') (pc + 3) lo (r.toList ++ rest)) : pa_w G x nL h a b pc lo (As.reverse ++ rest) := by
  obtain ⟨p, l, e, R, s, m, args, below, meth, c, Q, h0, ad0, al⟩ := x
  intro ad H locs ls q1 q2 q3 q4
  obtain ⟨hx, hb9, hml, hown, hts, hU, hf, hlo, hc9, hs9, -, hZ⟩ := C
  obtain ⟨c1, c2, c3, c4, c5, c6, c7⟩ := cs
  have hlk : (Cond.methodLinkNest own ix y.1 RX3).before args s = true := by
    rcases c1 with ⟨e1, e2, e3⟩ | ⟨e1, e2, e3⟩
    · rw [e1, e2, e3]; exact va_Nw.use rfl hU.2.1
    · rw [e1, e2, e3]; exact va_Nw.use rfl hU.2.2.1
  have cw : va_CN R s args own ix y.1 RX3 y.2.1 y.2.2.1 y.2.2.2 (pa_ws y) (pa_rm d' mc' ms') mc' ms' n ∧ (Cond.static y.1).before args s = true ∧ True := by
    refine ⟨⟨⟨rfl, rfl, ?_, ?_, pa_ws_all c4 hts, List.mem_cons_self⟩, hts _ c4, hts _ c3, c5, fun sig h => ?_, hlk⟩, hts _ c2, trivial⟩
    · have : d ≤ R.frames := hf
      show d' + 1 ≤ R.frames
      omega
    · have : 30 * d ≤ R.locals := hlo
      show 8 + (y.2.2.1 + 11) + 30 * d' ≤ R.locals
      omega
    · rw [h] at c6
      exact (Option.some.inj c6).symm
  refine pa_back (rest := rest) (va_runSN (As := As.map (pa_tr ad)) (rest := rest.map (pa_tr ad)) ⟨hx, hb9, hml, hown, hts⟩ (hM ad) cw ⟨pa_P_bl, fun U hU9 hW => ⟨rfl, by rw [hU9]; exact q1, hU.warm hW, hZ.at q3 hU9 hW⟩⟩ rfl (by rw [List.length_map]; exact hn) q4.1 ?_ (pa_room ad rest hr) dg ⟨by omega, by omega⟩) q2 q3 (fun _ => rfl) fun r h' ad' H1 locs1 hp han hR hq2 hq3 => ?_
  · show (As.reverse ++ rest).map (pa_tr ad) = _
    rw [List.map_append, List.map_reverse]
  · have e9 : ad' = ad := han.2.1 rfl
    subst e9
    have k3 := kk r h' hp ad' H1 locs1 ls hR hq2 hq3 q4
    rw [List.map_append] at k3
    cases r <;> exact k3
-- a method from its entry
theorem pa_start (l : Launch) {y : pa_Y} {al : Bool} {av : List pa_V} {post : Option pa_V → pa_H → Prop} (hy : plainName y.1.cls = true) (hc : ∀ v ∈ av, pa_c1 v) (hl : ∀ ad, (lg_sl (av.map (pa_tr ad))).length ≤ y.2.2.1)
    (body : ∀ x : pa_X, pa_C G x y.2.1 y.2.2.1 y.1.cls d mc ms → pa_E G x mc ms y.2.2.2 post → x.2.1 = l → x.2.2.2.2.2.2.2.2.2.2.2.2.2 = al → pa_w G x y.2.2.1 h 0 0 0 (av.map some ++ List.replicate (y.2.2.1 - av.length) none) []) : pa_M G l y d al av h mc ms post := by
  intro ad
  refine Met.ofW (cc := y.2.1) (maxL := y.2.2.1) (ret := y.2.2.2) (ws' := pa_wl) hy rfl ?_
  intro p e s m args below meth c s₁ B hml hv
  obtain ⟨rfl, hR, hU, hZ⟩ := hv
  have hts : ∀ w ∈ pa_wl, w.before (av.map (pa_tr ad)).toArray s = true := fun w hw => atoms_spec (ws := pa_ws y) B.pre w (List.mem_cons_of_mem _ hw)
  have hLo := pa_Lo_entry (ad := ad) av y.2.2.1 hc (hl ad)
  have hLo2 : pa_Lo ad ((lg_sl (av.map (pa_tr ad)) ++ List.replicate (y.2.2.1 - (lg_sl (av.map (pa_tr ad))).length) Slot.unset).toArray) y.2.2.1 (av.map some ++ List.replicate (y.2.2.1 - av.length) none) := by
    refine ⟨hLo.1, hLo.2.1, fun j v hv => hLo.2.2 j v ?_⟩
    by_cases hj : j < (av.map some).length
    · rwa [List.getElem?_append_left hj] at hv
    · rw [List.getElem?_append_right (by omega)] at hv
      have := List.mem_of_getElem? hv
      rw [List.mem_replicate] at this
      cases this.2
  rw [lg_entry_eq]
  exact body (p, l, e, (headSpec (pa_ws y) (pa_rm d mc ms)).room, s, m, (av.map (pa_tr ad)).toArray, below, meth, c, MQ below (pa_Q G al h ad post) (av.map (pa_tr ad)).toArray s mc ms (pa_A G), h, ad, al)
    ⟨B.exec, B.bytes, hml, findClass_of_methodNamed B.named, hts, hU, Nat.le_refl _, Nat.le_refl _, Nat.le_refl _, Nat.le_refl _, B.notSynchronized, hZ⟩ ⟨B.returns, hR.2.2.2.2.2, fun t z => z⟩ rfl rfl ad s.heap [] _ hR (pa_an_rf al h ad) va_S.rf hLo2
end WALK
end
