section
-- ===== PART A: goes FIRST, ahead of the names: the tables' words, and 'selects' of the private methods out of them =====
/-- a private method of a class that the tables say can be made, by its rows of tables_1 -/
def lw_okq (q : MethodName × Nat) : Prop := (q.1.cls ≠ "java/lang/invoke/MethodHandle" ∧ q.1.cls ≠ "java/lang/invoke/VarHandle") ∧ Cond.instantiable q.1.cls q.2 ∈ tables_1 ∧ Cond.privateMethod q.1 ∈ tables_1 ∧ Cond.instanceMethod q.1 ∈ tables_1
theorem lw_p0 : lw_okq (⟨"PageReceiver$Packet", "byteAt", "(I)I"⟩, 3) := ⟨⟨by decide +kernel, by decide +kernel⟩, List.mem_of_getElem? (i := 23) (by decide +kernel), List.mem_of_getElem? (i := 301) (by decide +kernel), List.mem_of_getElem? (i := 302) (by decide +kernel)⟩
theorem lw_p1 : lw_okq (⟨"PageReceiver$Tuner", "takeHeader", "(I)V"⟩, 7) := ⟨⟨by decide +kernel, by decide +kernel⟩, List.mem_of_getElem? (i := 140) (by decide +kernel), List.mem_of_getElem? (i := 311) (by decide +kernel), List.mem_of_getElem? (i := 312) (by decide +kernel)⟩
theorem lw_p2 : lw_okq (⟨"PageReceiver$Tuner", "readHeader", "()Z"⟩, 7) := ⟨⟨by decide +kernel, by decide +kernel⟩, List.mem_of_getElem? (i := 140) (by decide +kernel), List.mem_of_getElem? (i := 315) (by decide +kernel), List.mem_of_getElem? (i := 316) (by decide +kernel)⟩
theorem lw_p3 : lw_okq (⟨"PageReceiver$Tuner", "completeComing", "(IZ)V"⟩, 7) := ⟨⟨by decide +kernel, by decide +kernel⟩, List.mem_of_getElem? (i := 140) (by decide +kernel), List.mem_of_getElem? (i := 319) (by decide +kernel), List.mem_of_getElem? (i := 320) (by decide +kernel)⟩
theorem lw_p4 : lw_okq (⟨"PageReceiver$Shelf", "placeFor", "(II)LPageReceiver$Page;"⟩, 2) := ⟨⟨by decide +kernel, by decide +kernel⟩, List.mem_of_getElem? (i := 41) (by decide +kernel), List.mem_of_getElem? (i := 327) (by decide +kernel), List.mem_of_getElem? (i := 328) (by decide +kernel)⟩
theorem lw_p5 : lw_okq (⟨"PageReceiver$Shelf", "oldest", "(I)LPageReceiver$Page;"⟩, 2) := ⟨⟨by decide +kernel, by decide +kernel⟩, List.mem_of_getElem? (i := 41) (by decide +kernel), List.mem_of_getElem? (i := 335) (by decide +kernel), List.mem_of_getElem? (i := 336) (by decide +kernel)⟩
theorem lw_p6 : lw_okq (⟨"PageReceiver$Tuner", "beginPage", "(I)V"⟩, 7) := ⟨⟨by decide +kernel, by decide +kernel⟩, List.mem_of_getElem? (i := 140) (by decide +kernel), List.mem_of_getElem? (i := 346) (by decide +kernel), List.mem_of_getElem? (i := 347) (by decide +kernel)⟩
theorem lw_p7 : lw_okq (⟨"PageReceiver$Tuner", "takeHeaderLetters", "(LPageReceiver$Page;Z)V"⟩, 7) := ⟨⟨by decide +kernel, by decide +kernel⟩, List.mem_of_getElem? (i := 140) (by decide +kernel), List.mem_of_getElem? (i := 357) (by decide +kernel), List.mem_of_getElem? (i := 358) (by decide +kernel)⟩
theorem lw_p8 : lw_okq (⟨"PageReceiver$Tuner", "takeRow", "(LPageReceiver$Page;II)V"⟩, 7) := ⟨⟨by decide +kernel, by decide +kernel⟩, List.mem_of_getElem? (i := 140) (by decide +kernel), List.mem_of_getElem? (i := 375) (by decide +kernel), List.mem_of_getElem? (i := 376) (by decide +kernel)⟩
theorem lw_p9 : lw_okq (⟨"PageReceiver$Tuner", "takeLetters", "(LPageReceiver$Page;I)V"⟩, 7) := ⟨⟨by decide +kernel, by decide +kernel⟩, List.mem_of_getElem? (i := 140) (by decide +kernel), List.mem_of_getElem? (i := 379) (by decide +kernel), List.mem_of_getElem? (i := 380) (by decide +kernel)⟩
theorem lw_p10 : lw_okq (⟨"PageReceiver$Tuner", "takeOverlays", "(LPageReceiver$Page;)V"⟩, 7) := ⟨⟨by decide +kernel, by decide +kernel⟩, List.mem_of_getElem? (i := 140) (by decide +kernel), List.mem_of_getElem? (i := 383) (by decide +kernel), List.mem_of_getElem? (i := 384) (by decide +kernel)⟩
theorem lw_p11 : lw_okq (⟨"PageReceiver$Tuner", "takeLinks", "(LPageReceiver$Page;I)V"⟩, 7) := ⟨⟨by decide +kernel, by decide +kernel⟩, List.mem_of_getElem? (i := 140) (by decide +kernel), List.mem_of_getElem? (i := 406) (by decide +kernel), List.mem_of_getElem? (i := 407) (by decide +kernel)⟩
theorem lw_p12 : lw_okq (⟨"PageReceiver$Remote", "want", "(I)V"⟩, 7) := ⟨⟨by decide +kernel, by decide +kernel⟩, List.mem_of_getElem? (i := 103) (by decide +kernel), List.mem_of_getElem? (i := 426) (by decide +kernel), List.mem_of_getElem? (i := 427) (by decide +kernel)⟩
theorem lw_p13 : lw_okq (⟨"PageReceiver$Remote", "turnHeld", "()Z"⟩, 7) := ⟨⟨by decide +kernel, by decide +kernel⟩, List.mem_of_getElem? (i := 103) (by decide +kernel), List.mem_of_getElem? (i := 434) (by decide +kernel), List.mem_of_getElem? (i := 435) (by decide +kernel)⟩
theorem lw_p14 : lw_okq (⟨"PageReceiver$Remote", "followLink", "(I)Z"⟩, 7) := ⟨⟨by decide +kernel, by decide +kernel⟩, List.mem_of_getElem? (i := 103) (by decide +kernel), List.mem_of_getElem? (i := 444) (by decide +kernel), List.mem_of_getElem? (i := 445) (by decide +kernel)⟩
theorem lw_p15 : lw_okq (⟨"PageReceiver$Screen", "isOwn", "(LPageReceiver$Page;I)Z"⟩, 8) := ⟨⟨by decide +kernel, by decide +kernel⟩, List.mem_of_getElem? (i := 174) (by decide +kernel), List.mem_of_getElem? (i := 492) (by decide +kernel), List.mem_of_getElem? (i := 493) (by decide +kernel)⟩
def lw_privs_1 : List (MethodName × Nat) := [(⟨"PageReceiver$Packet", "byteAt", "(I)I"⟩, 3), (⟨"PageReceiver$Tuner", "takeHeader", "(I)V"⟩, 7), (⟨"PageReceiver$Tuner", "readHeader", "()Z"⟩, 7), (⟨"PageReceiver$Tuner", "completeComing", "(IZ)V"⟩, 7), (⟨"PageReceiver$Shelf", "placeFor", "(II)LPageReceiver$Page;"⟩, 2), (⟨"PageReceiver$Shelf", "oldest", "(I)LPageReceiver$Page;"⟩, 2), (⟨"PageReceiver$Tuner", "beginPage", "(I)V"⟩, 7), (⟨"PageReceiver$Tuner", "takeHeaderLetters", "(LPageReceiver$Page;Z)V"⟩, 7), (⟨"PageReceiver$Tuner", "takeRow", "(LPageReceiver$Page;II)V"⟩, 7), (⟨"PageReceiver$Tuner", "takeLetters", "(LPageReceiver$Page;I)V"⟩, 7), (⟨"PageReceiver$Tuner", "takeOverlays", "(LPageReceiver$Page;)V"⟩, 7), (⟨"PageReceiver$Tuner", "takeLinks", "(LPageReceiver$Page;I)V"⟩, 7), (⟨"PageReceiver$Remote", "want", "(I)V"⟩, 7), (⟨"PageReceiver$Remote", "turnHeld", "()Z"⟩, 7), (⟨"PageReceiver$Remote", "followLink", "(I)Z"⟩, 7), (⟨"PageReceiver$Screen", "isOwn", "(LPageReceiver$Page;I)Z"⟩, 8)]
theorem lw_r1 : ∀ q ∈ lw_privs_1, lw_okq q := List.forall_mem_cons.mpr ⟨lw_p0, List.forall_mem_cons.mpr ⟨lw_p1, List.forall_mem_cons.mpr ⟨lw_p2, List.forall_mem_cons.mpr ⟨lw_p3, List.forall_mem_cons.mpr ⟨lw_p4, List.forall_mem_cons.mpr ⟨lw_p5, List.forall_mem_cons.mpr ⟨lw_p6, List.forall_mem_cons.mpr ⟨lw_p7, List.forall_mem_cons.mpr ⟨lw_p8, List.forall_mem_cons.mpr ⟨lw_p9, List.forall_mem_cons.mpr ⟨lw_p10, List.forall_mem_cons.mpr ⟨lw_p11, List.forall_mem_cons.mpr ⟨lw_p12, List.forall_mem_cons.mpr ⟨lw_p13, List.forall_mem_cons.mpr ⟨lw_p14, List.forall_mem_cons.mpr ⟨lw_p15, fun _ h => absurd h List.not_mem_nil⟩⟩⟩⟩⟩⟩⟩⟩⟩⟩⟩⟩⟩⟩⟩⟩
theorem lw_p16 : lw_okq (⟨"PageReceiver$Screen", "hasDouble", "(LPageReceiver$Page;I)Z"⟩, 8) := ⟨⟨by decide +kernel, by decide +kernel⟩, List.mem_of_getElem? (i := 174) (by decide +kernel), List.mem_of_getElem? (i := 496) (by decide +kernel), List.mem_of_getElem? (i := 497) (by decide +kernel)⟩
theorem lw_p17 : lw_okq (⟨"PageReceiver$Screen", "letterAt", "(LPageReceiver$Page;II)I"⟩, 8) := ⟨⟨by decide +kernel, by decide +kernel⟩, List.mem_of_getElem? (i := 174) (by decide +kernel), List.mem_of_getElem? (i := 500) (by decide +kernel), List.mem_of_getElem? (i := 501) (by decide +kernel)⟩
theorem lw_p18 : lw_okq (⟨"PageReceiver$Screen", "headLetter", "(I)I"⟩, 8) := ⟨⟨by decide +kernel, by decide +kernel⟩, List.mem_of_getElem? (i := 174) (by decide +kernel), List.mem_of_getElem? (i := 504) (by decide +kernel), List.mem_of_getElem? (i := 505) (by decide +kernel)⟩
theorem lw_p19 : lw_okq (⟨"PageReceiver$Screen", "drawCell", "(LPageReceiver$Page;II)V"⟩, 8) := ⟨⟨by decide +kernel, by decide +kernel⟩, List.mem_of_getElem? (i := 174) (by decide +kernel), List.mem_of_getElem? (i := 523) (by decide +kernel), List.mem_of_getElem? (i := 524) (by decide +kernel)⟩
theorem lw_p20 : lw_okq (⟨"PageReceiver$States", "turnDouble", "(Z)V"⟩, 11) := ⟨⟨by decide +kernel, by decide +kernel⟩, List.mem_of_getElem? (i := 180) (by decide +kernel), List.mem_of_getElem? (i := 531) (by decide +kernel), List.mem_of_getElem? (i := 532) (by decide +kernel)⟩
theorem lw_p21 : lw_okq (⟨"PageReceiver$Screen", "drawMark", "()V"⟩, 8) := ⟨⟨by decide +kernel, by decide +kernel⟩, List.mem_of_getElem? (i := 174) (by decide +kernel), List.mem_of_getElem? (i := 535) (by decide +kernel), List.mem_of_getElem? (i := 536) (by decide +kernel)⟩
theorem lw_p22 : lw_okq (⟨"PageReceiver$Screen", "drawBlock", "(IZ)V"⟩, 8) := ⟨⟨by decide +kernel, by decide +kernel⟩, List.mem_of_getElem? (i := 174) (by decide +kernel), List.mem_of_getElem? (i := 539) (by decide +kernel), List.mem_of_getElem? (i := 540) (by decide +kernel)⟩
theorem lw_p23 : lw_okq (⟨"PageReceiver$Screen", "drawPlain", "(I)V"⟩, 8) := ⟨⟨by decide +kernel, by decide +kernel⟩, List.mem_of_getElem? (i := 174) (by decide +kernel), List.mem_of_getElem? (i := 543) (by decide +kernel), List.mem_of_getElem? (i := 544) (by decide +kernel)⟩
theorem lw_p24 : lw_okq (⟨"PageReceiver$Screen", "drawLetter", "(III)V"⟩, 8) := ⟨⟨by decide +kernel, by decide +kernel⟩, List.mem_of_getElem? (i := 174) (by decide +kernel), List.mem_of_getElem? (i := 554) (by decide +kernel), List.mem_of_getElem? (i := 555) (by decide +kernel)⟩
theorem lw_p25 : lw_okq (⟨"PageReceiver$Screen", "drawStates", "(I)V"⟩, 8) := ⟨⟨by decide +kernel, by decide +kernel⟩, List.mem_of_getElem? (i := 174) (by decide +kernel), List.mem_of_getElem? (i := 565) (by decide +kernel), List.mem_of_getElem? (i := 566) (by decide +kernel)⟩
theorem lw_p26 : lw_okq (⟨"PageReceiver$States", "takeColour", "(IZ)V"⟩, 11) := ⟨⟨by decide +kernel, by decide +kernel⟩, List.mem_of_getElem? (i := 180) (by decide +kernel), List.mem_of_getElem? (i := 577) (by decide +kernel), List.mem_of_getElem? (i := 578) (by decide +kernel)⟩
theorem lw_p27 : lw_okq (⟨"PageReceiver$States", "turnMosaic", "(Z)V"⟩, 11) := ⟨⟨by decide +kernel, by decide +kernel⟩, List.mem_of_getElem? (i := 180) (by decide +kernel), List.mem_of_getElem? (i := 581) (by decide +kernel), List.mem_of_getElem? (i := 582) (by decide +kernel)⟩
theorem lw_p28 : lw_okq (⟨"PageReceiver$Screen", "turnToLowerHalf", "()V"⟩, 8) := ⟨⟨by decide +kernel, by decide +kernel⟩, List.mem_of_getElem? (i := 174) (by decide +kernel), List.mem_of_getElem? (i := 585) (by decide +kernel), List.mem_of_getElem? (i := 586) (by decide +kernel)⟩
theorem lw_p29 : lw_okq (⟨"PageReceiver$Screen", "blockFills", "(II)Z"⟩, 8) := ⟨⟨by decide +kernel, by decide +kernel⟩, List.mem_of_getElem? (i := 174) (by decide +kernel), List.mem_of_getElem? (i := 597) (by decide +kernel), List.mem_of_getElem? (i := 598) (by decide +kernel)⟩
theorem lw_p30 : lw_okq (⟨"PageReceiver$Screen", "letterFills", "(II)Z"⟩, 8) := ⟨⟨by decide +kernel, by decide +kernel⟩, List.mem_of_getElem? (i := 174) (by decide +kernel), List.mem_of_getElem? (i := 601) (by decide +kernel), List.mem_of_getElem? (i := 602) (by decide +kernel)⟩
theorem lw_p31 : lw_okq (⟨"PageReceiverModel", "takePacket", "()V"⟩, 37) := ⟨⟨by decide +kernel, by decide +kernel⟩, List.mem_of_getElem? (i := 609) (by decide +kernel), List.mem_of_getElem? (i := 733) (by decide +kernel), List.mem_of_getElem? (i := 734) (by decide +kernel)⟩
def lw_privs_2 : List (MethodName × Nat) := [(⟨"PageReceiver$Screen", "hasDouble", "(LPageReceiver$Page;I)Z"⟩, 8), (⟨"PageReceiver$Screen", "letterAt", "(LPageReceiver$Page;II)I"⟩, 8), (⟨"PageReceiver$Screen", "headLetter", "(I)I"⟩, 8), (⟨"PageReceiver$Screen", "drawCell", "(LPageReceiver$Page;II)V"⟩, 8), (⟨"PageReceiver$States", "turnDouble", "(Z)V"⟩, 11), (⟨"PageReceiver$Screen", "drawMark", "()V"⟩, 8), (⟨"PageReceiver$Screen", "drawBlock", "(IZ)V"⟩, 8), (⟨"PageReceiver$Screen", "drawPlain", "(I)V"⟩, 8), (⟨"PageReceiver$Screen", "drawLetter", "(III)V"⟩, 8), (⟨"PageReceiver$Screen", "drawStates", "(I)V"⟩, 8), (⟨"PageReceiver$States", "takeColour", "(IZ)V"⟩, 11), (⟨"PageReceiver$States", "turnMosaic", "(Z)V"⟩, 11), (⟨"PageReceiver$Screen", "turnToLowerHalf", "()V"⟩, 8), (⟨"PageReceiver$Screen", "blockFills", "(II)Z"⟩, 8), (⟨"PageReceiver$Screen", "letterFills", "(II)Z"⟩, 8), (⟨"PageReceiverModel", "takePacket", "()V"⟩, 37)]
theorem lw_r2 : ∀ q ∈ lw_privs_2, lw_okq q := List.forall_mem_cons.mpr ⟨lw_p16, List.forall_mem_cons.mpr ⟨lw_p17, List.forall_mem_cons.mpr ⟨lw_p18, List.forall_mem_cons.mpr ⟨lw_p19, List.forall_mem_cons.mpr ⟨lw_p20, List.forall_mem_cons.mpr ⟨lw_p21, List.forall_mem_cons.mpr ⟨lw_p22, List.forall_mem_cons.mpr ⟨lw_p23, List.forall_mem_cons.mpr ⟨lw_p24, List.forall_mem_cons.mpr ⟨lw_p25, List.forall_mem_cons.mpr ⟨lw_p26, List.forall_mem_cons.mpr ⟨lw_p27, List.forall_mem_cons.mpr ⟨lw_p28, List.forall_mem_cons.mpr ⟨lw_p29, List.forall_mem_cons.mpr ⟨lw_p30, List.forall_mem_cons.mpr ⟨lw_p31, fun _ h => absurd h List.not_mem_nil⟩⟩⟩⟩⟩⟩⟩⟩⟩⟩⟩⟩⟩⟩⟩⟩
theorem lw_p32 : lw_okq (⟨"PageReceiverModel", "nibble", "(I)I"⟩, 37) := ⟨⟨by decide +kernel, by decide +kernel⟩, List.mem_of_getElem? (i := 609) (by decide +kernel), List.mem_of_getElem? (i := 737) (by decide +kernel), List.mem_of_getElem? (i := 738) (by decide +kernel)⟩
theorem lw_p33 : lw_okq (⟨"PageReceiverModel", "drop", "()V"⟩, 37) := ⟨⟨by decide +kernel, by decide +kernel⟩, List.mem_of_getElem? (i := 609) (by decide +kernel), List.mem_of_getElem? (i := 747) (by decide +kernel), List.mem_of_getElem? (i := 748) (by decide +kernel)⟩
theorem lw_p34 : lw_okq (⟨"PageReceiverModel", "takeHeader", "(I)V"⟩, 37) := ⟨⟨by decide +kernel, by decide +kernel⟩, List.mem_of_getElem? (i := 609) (by decide +kernel), List.mem_of_getElem? (i := 751) (by decide +kernel), List.mem_of_getElem? (i := 752) (by decide +kernel)⟩
theorem lw_p35 : lw_okq (⟨"PageReceiverModel", "complete", "(I)V"⟩, 37) := ⟨⟨by decide +kernel, by decide +kernel⟩, List.mem_of_getElem? (i := 609) (by decide +kernel), List.mem_of_getElem? (i := 755) (by decide +kernel), List.mem_of_getElem? (i := 756) (by decide +kernel)⟩
theorem lw_p36 : lw_okq (⟨"PageReceiverModel", "placeFor", "(I)I"⟩, 37) := ⟨⟨by decide +kernel, by decide +kernel⟩, List.mem_of_getElem? (i := 609) (by decide +kernel), List.mem_of_getElem? (i := 759) (by decide +kernel), List.mem_of_getElem? (i := 760) (by decide +kernel)⟩
theorem lw_p37 : lw_okq (⟨"PageReceiverModel", "keptAt", "(I)I"⟩, 37) := ⟨⟨by decide +kernel, by decide +kernel⟩, List.mem_of_getElem? (i := 609) (by decide +kernel), List.mem_of_getElem? (i := 763) (by decide +kernel), List.mem_of_getElem? (i := 764) (by decide +kernel)⟩
theorem lw_p38 : lw_okq (⟨"PageReceiverModel", "copy", "(II)V"⟩, 37) := ⟨⟨by decide +kernel, by decide +kernel⟩, List.mem_of_getElem? (i := 609) (by decide +kernel), List.mem_of_getElem? (i := 767) (by decide +kernel), List.mem_of_getElem? (i := 768) (by decide +kernel)⟩
theorem lw_p39 : lw_okq (⟨"PageReceiverModel", "comes", "(IIIII)V"⟩, 37) := ⟨⟨by decide +kernel, by decide +kernel⟩, List.mem_of_getElem? (i := 609) (by decide +kernel), List.mem_of_getElem? (i := 771) (by decide +kernel), List.mem_of_getElem? (i := 772) (by decide +kernel)⟩
theorem lw_p40 : lw_okq (⟨"PageReceiverModel", "blank", "(I)V"⟩, 37) := ⟨⟨by decide +kernel, by decide +kernel⟩, List.mem_of_getElem? (i := 609) (by decide +kernel), List.mem_of_getElem? (i := 775) (by decide +kernel), List.mem_of_getElem? (i := 776) (by decide +kernel)⟩
theorem lw_p41 : lw_okq (⟨"PageReceiverModel", "letter", "(I)I"⟩, 37) := ⟨⟨by decide +kernel, by decide +kernel⟩, List.mem_of_getElem? (i := 609) (by decide +kernel), List.mem_of_getElem? (i := 779) (by decide +kernel), List.mem_of_getElem? (i := 780) (by decide +kernel)⟩
theorem lw_p42 : lw_okq (⟨"PageReceiverModel", "takeOverlays", "(I)V"⟩, 37) := ⟨⟨by decide +kernel, by decide +kernel⟩, List.mem_of_getElem? (i := 609) (by decide +kernel), List.mem_of_getElem? (i := 783) (by decide +kernel), List.mem_of_getElem? (i := 784) (by decide +kernel)⟩
theorem lw_p43 : lw_okq (⟨"PageReceiverModel", "mended", "(I)I"⟩, 37) := ⟨⟨by decide +kernel, by decide +kernel⟩, List.mem_of_getElem? (i := 609) (by decide +kernel), List.mem_of_getElem? (i := 788) (by decide +kernel), List.mem_of_getElem? (i := 789) (by decide +kernel)⟩
theorem lw_p44 : lw_okq (⟨"PageReceiverModel", "takeLinks", "(I)V"⟩, 37) := ⟨⟨by decide +kernel, by decide +kernel⟩, List.mem_of_getElem? (i := 609) (by decide +kernel), List.mem_of_getElem? (i := 795) (by decide +kernel), List.mem_of_getElem? (i := 796) (by decide +kernel)⟩
theorem lw_p45 : lw_okq (⟨"PageReceiverModel", "digit", "(I)Z"⟩, 37) := ⟨⟨by decide +kernel, by decide +kernel⟩, List.mem_of_getElem? (i := 609) (by decide +kernel), List.mem_of_getElem? (i := 807) (by decide +kernel), List.mem_of_getElem? (i := 808) (by decide +kernel)⟩
theorem lw_p46 : lw_okq (⟨"PageReceiverModel", "want", "(I)V"⟩, 37) := ⟨⟨by decide +kernel, by decide +kernel⟩, List.mem_of_getElem? (i := 609) (by decide +kernel), List.mem_of_getElem? (i := 811) (by decide +kernel), List.mem_of_getElem? (i := 812) (by decide +kernel)⟩
theorem lw_p47 : lw_okq (⟨"PageReceiverModel", "shownAt", "()I"⟩, 37) := ⟨⟨by decide +kernel, by decide +kernel⟩, List.mem_of_getElem? (i := 609) (by decide +kernel), List.mem_of_getElem? (i := 815) (by decide +kernel), List.mem_of_getElem? (i := 816) (by decide +kernel)⟩
def lw_privs_3 : List (MethodName × Nat) := [(⟨"PageReceiverModel", "nibble", "(I)I"⟩, 37), (⟨"PageReceiverModel", "drop", "()V"⟩, 37), (⟨"PageReceiverModel", "takeHeader", "(I)V"⟩, 37), (⟨"PageReceiverModel", "complete", "(I)V"⟩, 37), (⟨"PageReceiverModel", "placeFor", "(I)I"⟩, 37), (⟨"PageReceiverModel", "keptAt", "(I)I"⟩, 37), (⟨"PageReceiverModel", "copy", "(II)V"⟩, 37), (⟨"PageReceiverModel", "comes", "(IIIII)V"⟩, 37), (⟨"PageReceiverModel", "blank", "(I)V"⟩, 37), (⟨"PageReceiverModel", "letter", "(I)I"⟩, 37), (⟨"PageReceiverModel", "takeOverlays", "(I)V"⟩, 37), (⟨"PageReceiverModel", "mended", "(I)I"⟩, 37), (⟨"PageReceiverModel", "takeLinks", "(I)V"⟩, 37), (⟨"PageReceiverModel", "digit", "(I)Z"⟩, 37), (⟨"PageReceiverModel", "want", "(I)V"⟩, 37), (⟨"PageReceiverModel", "shownAt", "()I"⟩, 37)]
theorem lw_r3 : ∀ q ∈ lw_privs_3, lw_okq q := List.forall_mem_cons.mpr ⟨lw_p32, List.forall_mem_cons.mpr ⟨lw_p33, List.forall_mem_cons.mpr ⟨lw_p34, List.forall_mem_cons.mpr ⟨lw_p35, List.forall_mem_cons.mpr ⟨lw_p36, List.forall_mem_cons.mpr ⟨lw_p37, List.forall_mem_cons.mpr ⟨lw_p38, List.forall_mem_cons.mpr ⟨lw_p39, List.forall_mem_cons.mpr ⟨lw_p40, List.forall_mem_cons.mpr ⟨lw_p41, List.forall_mem_cons.mpr ⟨lw_p42, List.forall_mem_cons.mpr ⟨lw_p43, List.forall_mem_cons.mpr ⟨lw_p44, List.forall_mem_cons.mpr ⟨lw_p45, List.forall_mem_cons.mpr ⟨lw_p46, List.forall_mem_cons.mpr ⟨lw_p47, fun _ h => absurd h List.not_mem_nil⟩⟩⟩⟩⟩⟩⟩⟩⟩⟩⟩⟩⟩⟩⟩⟩
theorem lw_p48 : lw_okq (⟨"PageReceiverModel", "goTo", "(I)V"⟩, 37) := ⟨⟨by decide +kernel, by decide +kernel⟩, List.mem_of_getElem? (i := 609) (by decide +kernel), List.mem_of_getElem? (i := 846) (by decide +kernel), List.mem_of_getElem? (i := 847) (by decide +kernel)⟩
theorem lw_p49 : lw_okq (⟨"PageReceiverModel", "go", "(I)Z"⟩, 37) := ⟨⟨by decide +kernel, by decide +kernel⟩, List.mem_of_getElem? (i := 609) (by decide +kernel), List.mem_of_getElem? (i := 850) (by decide +kernel), List.mem_of_getElem? (i := 851) (by decide +kernel)⟩
theorem lw_p50 : lw_okq (⟨"PageReceiverModel", "fetch", "(I)V"⟩, 37) := ⟨⟨by decide +kernel, by decide +kernel⟩, List.mem_of_getElem? (i := 609) (by decide +kernel), List.mem_of_getElem? (i := 854) (by decide +kernel), List.mem_of_getElem? (i := 855) (by decide +kernel)⟩
theorem lw_p51 : lw_okq (⟨"PageReceiverModel", "begin", "()V"⟩, 37) := ⟨⟨by decide +kernel, by decide +kernel⟩, List.mem_of_getElem? (i := 609) (by decide +kernel), List.mem_of_getElem? (i := 861) (by decide +kernel), List.mem_of_getElem? (i := 862) (by decide +kernel)⟩
theorem lw_p52 : lw_okq (⟨"PageReceiverModel", "forget", "()V"⟩, 37) := ⟨⟨by decide +kernel, by decide +kernel⟩, List.mem_of_getElem? (i := 609) (by decide +kernel), List.mem_of_getElem? (i := 865) (by decide +kernel), List.mem_of_getElem? (i := 866) (by decide +kernel)⟩
theorem lw_p53 : lw_okq (⟨"PageReceiverModel", "noteLetter", "(III)V"⟩, 37) := ⟨⟨by decide +kernel, by decide +kernel⟩, List.mem_of_getElem? (i := 609) (by decide +kernel), List.mem_of_getElem? (i := 869) (by decide +kernel), List.mem_of_getElem? (i := 870) (by decide +kernel)⟩
theorem lw_p54 : lw_okq (⟨"PageReceiverModel", "note", "(IIZZ)V"⟩, 37) := ⟨⟨by decide +kernel, by decide +kernel⟩, List.mem_of_getElem? (i := 609) (by decide +kernel), List.mem_of_getElem? (i := 873) (by decide +kernel), List.mem_of_getElem? (i := 874) (by decide +kernel)⟩
theorem lw_p55 : lw_okq (⟨"PageReceiverModel", "before", "(I)V"⟩, 37) := ⟨⟨by decide +kernel, by decide +kernel⟩, List.mem_of_getElem? (i := 609) (by decide +kernel), List.mem_of_getElem? (i := 880) (by decide +kernel), List.mem_of_getElem? (i := 881) (by decide +kernel)⟩
theorem lw_p56 : lw_okq (⟨"PageReceiverModel", "setTwice", "(Z)V"⟩, 37) := ⟨⟨by decide +kernel, by decide +kernel⟩, List.mem_of_getElem? (i := 609) (by decide +kernel), List.mem_of_getElem? (i := 884) (by decide +kernel), List.mem_of_getElem? (i := 885) (by decide +kernel)⟩
theorem lw_p57 : lw_okq (⟨"PageReceiverModel", "after", "(I)V"⟩, 37) := ⟨⟨by decide +kernel, by decide +kernel⟩, List.mem_of_getElem? (i := 609) (by decide +kernel), List.mem_of_getElem? (i := 888) (by decide +kernel), List.mem_of_getElem? (i := 889) (by decide +kernel)⟩
theorem lw_p58 : lw_okq (⟨"PageReceiverModel", "setMosaic", "(Z)V"⟩, 37) := ⟨⟨by decide +kernel, by decide +kernel⟩, List.mem_of_getElem? (i := 609) (by decide +kernel), List.mem_of_getElem? (i := 892) (by decide +kernel), List.mem_of_getElem? (i := 893) (by decide +kernel)⟩
def lw_privs_4 : List (MethodName × Nat) := [(⟨"PageReceiverModel", "goTo", "(I)V"⟩, 37), (⟨"PageReceiverModel", "go", "(I)Z"⟩, 37), (⟨"PageReceiverModel", "fetch", "(I)V"⟩, 37), (⟨"PageReceiverModel", "begin", "()V"⟩, 37), (⟨"PageReceiverModel", "forget", "()V"⟩, 37), (⟨"PageReceiverModel", "noteLetter", "(III)V"⟩, 37), (⟨"PageReceiverModel", "note", "(IIZZ)V"⟩, 37), (⟨"PageReceiverModel", "before", "(I)V"⟩, 37), (⟨"PageReceiverModel", "setTwice", "(Z)V"⟩, 37), (⟨"PageReceiverModel", "after", "(I)V"⟩, 37), (⟨"PageReceiverModel", "setMosaic", "(Z)V"⟩, 37)]
theorem lw_r4 : ∀ q ∈ lw_privs_4, lw_okq q := List.forall_mem_cons.mpr ⟨lw_p48, List.forall_mem_cons.mpr ⟨lw_p49, List.forall_mem_cons.mpr ⟨lw_p50, List.forall_mem_cons.mpr ⟨lw_p51, List.forall_mem_cons.mpr ⟨lw_p52, List.forall_mem_cons.mpr ⟨lw_p53, List.forall_mem_cons.mpr ⟨lw_p54, List.forall_mem_cons.mpr ⟨lw_p55, List.forall_mem_cons.mpr ⟨lw_p56, List.forall_mem_cons.mpr ⟨lw_p57, List.forall_mem_cons.mpr ⟨lw_p58, fun _ h => absurd h List.not_mem_nil⟩⟩⟩⟩⟩⟩⟩⟩⟩⟩⟩
def lw_privs : List (MethodName × Nat) := lw_privs_1 ++ (lw_privs_2 ++ (lw_privs_3 ++ (lw_privs_4)))
def lw_tbl : List Cond := k2_sels lw_privs ++ tables_1
theorem lw_privs_ok : ∀ q ∈ lw_privs, lw_okq q := by
  show ∀ q ∈ lw_privs_1 ++ (lw_privs_2 ++ (lw_privs_3 ++ (lw_privs_4))), lw_okq q
  exact List.forall_mem_append.mpr ⟨lw_r1, List.forall_mem_append.mpr ⟨lw_r2, List.forall_mem_append.mpr ⟨lw_r3, lw_r4⟩⟩⟩
-- ===== end of PART A; then your names; then what follows =====
end
section
/-! Names of this claim, written by wip/whole/gen/gen_names.py out of the tables and the listing. -/
def T_Recv : u_T := fun k => match k with
  | 0 => ("PageReceiver", "tally", "[I", true)
  | 1 => ("PageReceiver", "packet", "LPageReceiver$Packet;", true)
  | 2 => ("PageReceiver", "shelf", "LPageReceiver$Shelf;", true)
  | 3 => ("PageReceiver", "remote", "LPageReceiver$Remote;", true)
  | 4 => ("PageReceiver", "tuner", "LPageReceiver$Tuner;", true)
  | _ => ("PageReceiver", "screen", "LPageReceiver$Screen;", true)
def t_Recv : Nat → FieldType := fun k => match k with
  | 0 => .array .int
  | 1 => .object "PageReceiver$Packet"
  | 2 => .object "PageReceiver$Shelf"
  | 3 => .object "PageReceiver$Remote"
  | 4 => .object "PageReceiver$Tuner"
  | _ => .object "PageReceiver$Screen"
def T_Packet : u_T := fun k => match k with
  | 0 => ("PageReceiver$Packet", "bytes", "[I", true)
  | 1 => ("PageReceiver$Packet", "tally", "[I", true)
  | _ => ("PageReceiver$Packet", "size", "I", false)
def t_Packet : Nat → FieldType := fun k => match k with
  | 0 => .array .int
  | 1 => .array .int
  | _ => .int
def T_Page : u_T := fun k => match k with
  | 0 => ("PageReceiver$Page", "there", "Z", false)
  | 1 => ("PageReceiver$Page", "number", "I", false)
  | 2 => ("PageReceiver$Page", "subcode", "I", false)
  | 3 => ("PageReceiver$Page", "set", "I", false)
  | 4 => ("PageReceiver$Page", "completedBefore", "I", false)
  | 5 => ("PageReceiver$Page", "letters", "[I", true)
  | 6 => ("PageReceiver$Page", "overlays", "[I", true)
  | _ => ("PageReceiver$Page", "links", "[I", true)
def t_Page : Nat → FieldType := fun k => match k with
  | 0 => .boolean
  | 1 => .int
  | 2 => .int
  | 3 => .int
  | 4 => .int
  | 5 => .array .int
  | 6 => .array .int
  | _ => .array .int
def T_Shelf : u_T := fun k => match k with
  | 0 => ("PageReceiver$Shelf", "places", "[LPageReceiver$Page;", true)
  | _ => ("PageReceiver$Shelf", "tally", "[I", true)
def t_Shelf : Nat → FieldType := fun k => match k with
  | 0 => .array (.object "PageReceiver$Page")
  | _ => .array .int
def T_Remote : u_T := fun k => match k with
  | 0 => ("PageReceiver$Remote", "shelf", "LPageReceiver$Shelf;", true)
  | 1 => ("PageReceiver$Remote", "held", "LPageReceiver$Page;", true)
  | 2 => ("PageReceiver$Remote", "wanted", "I", false)
  | 3 => ("PageReceiver$Remote", "waiting", "I", false)
  | 4 => ("PageReceiver$Remote", "firstDigit", "I", false)
  | 5 => ("PageReceiver$Remote", "secondDigit", "I", false)
  | _ => ("PageReceiver$Remote", "revealed", "Z", false)
def t_Remote : Nat → FieldType := fun k => match k with
  | 0 => .object "PageReceiver$Shelf"
  | 1 => .object "PageReceiver$Page"
  | 2 => .int
  | 3 => .int
  | 4 => .int
  | 5 => .int
  | _ => .boolean
def T_Tuner : u_T := fun k => match k with
  | 0 => ("PageReceiver$Tuner", "packet", "LPageReceiver$Packet;", true)
  | 1 => ("PageReceiver$Tuner", "shelf", "LPageReceiver$Shelf;", true)
  | 2 => ("PageReceiver$Tuner", "remote", "LPageReceiver$Remote;", true)
  | 3 => ("PageReceiver$Tuner", "tally", "[I", true)
  | 4 => ("PageReceiver$Tuner", "coming", "[LPageReceiver$Page;", true)
  | 5 => ("PageReceiver$Tuner", "rolling", "[I", true)
  | _ => ("PageReceiver$Tuner", "header", "[I", true)
def t_Tuner : Nat → FieldType := fun k => match k with
  | 0 => .object "PageReceiver$Packet"
  | 1 => .object "PageReceiver$Shelf"
  | 2 => .object "PageReceiver$Remote"
  | 3 => .array .int
  | 4 => .array (.object "PageReceiver$Page")
  | 5 => .array .int
  | _ => .array .int
def T_States : u_T := fun k => match k with
  | 0 => ("PageReceiver$States", "colour", "I", false)
  | 1 => ("PageReceiver$States", "ground", "I", false)
  | 2 => ("PageReceiver$States", "mosaic", "Z", false)
  | 3 => ("PageReceiver$States", "flash", "Z", false)
  | 4 => ("PageReceiver$States", "conceal", "Z", false)
  | 5 => ("PageReceiver$States", "box", "Z", false)
  | 6 => ("PageReceiver$States", "doubled", "Z", false)
  | 7 => ("PageReceiver$States", "separated", "Z", false)
  | 8 => ("PageReceiver$States", "hold", "Z", false)
  | 9 => ("PageReceiver$States", "heldLetter", "I", false)
  | _ => ("PageReceiver$States", "heldSeparated", "Z", false)
def t_States : Nat → FieldType := fun k => match k with
  | 0 => .int
  | 1 => .int
  | 2 => .boolean
  | 3 => .boolean
  | 4 => .boolean
  | 5 => .boolean
  | 6 => .boolean
  | 7 => .boolean
  | 8 => .boolean
  | 9 => .int
  | _ => .boolean
def T_Screen : u_T := fun k => match k with
  | 0 => ("PageReceiver$Screen", "remote", "LPageReceiver$Remote;", true)
  | 1 => ("PageReceiver$Screen", "rolling", "[I", true)
  | 2 => ("PageReceiver$Screen", "states", "LPageReceiver$States;", true)
  | 3 => ("PageReceiver$Screen", "light", "Z", false)
  | 4 => ("PageReceiver$Screen", "letter", "I", false)
  | 5 => ("PageReceiver$Screen", "colour", "I", false)
  | 6 => ("PageReceiver$Screen", "ground", "I", false)
  | _ => ("PageReceiver$Screen", "sum", "I", false)
def t_Screen : Nat → FieldType := fun k => match k with
  | 0 => .object "PageReceiver$Remote"
  | 1 => .array .int
  | 2 => .object "PageReceiver$States"
  | 3 => .boolean
  | 4 => .int
  | 5 => .int
  | 6 => .int
  | _ => .int
def T_Mod : u_T := fun k => match k with
  | 0 => ("PageReceiverModel", "places", "I", true)
  | 1 => ("PageReceiverModel", "there", "[Z", true)
  | 2 => ("PageReceiverModel", "numbers", "[I", true)
  | 3 => ("PageReceiverModel", "subcodes", "[I", true)
  | 4 => ("PageReceiverModel", "sets", "[I", true)
  | 5 => ("PageReceiverModel", "befores", "[I", true)
  | 6 => ("PageReceiverModel", "links", "[I", true)
  | 7 => ("PageReceiverModel", "letters", "[I", true)
  | 8 => ("PageReceiverModel", "overlays", "[I", true)
  | 9 => ("PageReceiverModel", "rolling", "[I", true)
  | 10 => ("PageReceiverModel", "packet", "[I", true)
  | 11 => ("PageReceiverModel", "bytes", "I", false)
  | 12 => ("PageReceiverModel", "counts", "[I", true)
  | 13 => ("PageReceiverModel", "wanted", "I", false)
  | 14 => ("PageReceiverModel", "digits", "I", false)
  | 15 => ("PageReceiverModel", "firstDigit", "I", false)
  | 16 => ("PageReceiverModel", "secondDigit", "I", false)
  | 17 => ("PageReceiverModel", "revealed", "Z", false)
  | 18 => ("PageReceiverModel", "light", "Z", false)
  | 19 => ("PageReceiverModel", "cells", "[I", true)
  | 20 => ("PageReceiverModel", "covers", "[I", true)
  | 21 => ("PageReceiverModel", "seen", "[I", true)
  | 22 => ("PageReceiverModel", "colours", "[I", true)
  | 23 => ("PageReceiverModel", "grounds", "[I", true)
  | 24 => ("PageReceiverModel", "sums", "[I", true)
  | 25 => ("PageReceiverModel", "colour", "I", false)
  | 26 => ("PageReceiverModel", "ground", "I", false)
  | 27 => ("PageReceiverModel", "mosaic", "Z", false)
  | 28 => ("PageReceiverModel", "flash", "Z", false)
  | 29 => ("PageReceiverModel", "conceal", "Z", false)
  | 30 => ("PageReceiverModel", "box", "Z", false)
  | 31 => ("PageReceiverModel", "twice", "Z", false)
  | 32 => ("PageReceiverModel", "large", "Z", false)
  | 33 => ("PageReceiverModel", "separated", "Z", false)
  | 34 => ("PageReceiverModel", "hold", "Z", false)
  | 35 => ("PageReceiverModel", "kept", "I", false)
  | _ => ("PageReceiverModel", "keptApart", "Z", false)
def t_Mod : Nat → FieldType := fun k => match k with
  | 0 => .int
  | 1 => .array .boolean
  | 2 => .array .int
  | 3 => .array .int
  | 4 => .array .int
  | 5 => .array .int
  | 6 => .array .int
  | 7 => .array .int
  | 8 => .array .int
  | 9 => .array .int
  | 10 => .array .int
  | 11 => .int
  | 12 => .array .int
  | 13 => .int
  | 14 => .int
  | 15 => .int
  | 16 => .int
  | 17 => .boolean
  | 18 => .boolean
  | 19 => .array .int
  | 20 => .array .int
  | 21 => .array .int
  | 22 => .array .int
  | 23 => .array .int
  | 24 => .array .int
  | 25 => .int
  | 26 => .int
  | 27 => .boolean
  | 28 => .boolean
  | 29 => .boolean
  | 30 => .boolean
  | 31 => .boolean
  | 32 => .boolean
  | 33 => .boolean
  | 34 => .boolean
  | 35 => .int
  | _ => .boolean
abbrev pg_cl : List vw_C := [("PageReceiver", T_Recv, 6), ("PageReceiver$Packet", T_Packet, 3), ("PageReceiver$Page", T_Page, 8), ("PageReceiver$Shelf", T_Shelf, 2), ("PageReceiver$Remote", T_Remote, 7), ("PageReceiver$Tuner", T_Tuner, 7), ("PageReceiver$States", T_States, 11), ("PageReceiver$Screen", T_Screen, 8), ("PageReceiverModel", T_Mod, 37)]
/-- all words of the tables that stay from call to call -/
def pg_ws : List Cond := lw_tbl.filter goodWord
theorem pg_good : ∀ w ∈ pg_ws, (w.onTables && w.keeps) = true ∨ ∃ ty, w = .arrayClass ty := fun _ hw => good_of_word (List.mem_filter.mp hw).2
theorem pg_tb {w : Cond} (i : Nat) (h : tables_1[i]? = some w) (g : goodWord w = true) : w ∈ pg_ws := List.mem_filter.mpr ⟨List.mem_append_right _ (List.mem_of_getElem? h), g⟩
theorem pg_tp {y : MethodName} {n : Nat} (i : Nat) (h : lw_privs[i]? = some (y, n)) : Cond.selects y.cls y y ∈ pg_ws := List.mem_filter.mpr ⟨List.mem_append_left _ (List.mem_map.mpr ⟨(y, n), List.mem_of_getElem? h, rfl⟩), by rfl⟩
def pg_nf : List (String × Nat × String × String × String × String) := [("PageReceiver", 85, "PageReceiver$Packet", "size", "I", "PageReceiver"), ("PageReceiver$Remote", 26, "PageReceiver$Page", "there", "Z", "PageReceiver"), ("PageReceiver$Shelf", 22, "PageReceiver$Page", "there", "Z", "PageReceiver"), ("PageReceiver$Tuner", 56, "PageReceiver$Page", "there", "Z", "PageReceiver"), ("PageReceiver", 119, "PageReceiver$Page", "there", "Z", "PageReceiver"), ("PageReceiver$Shelf", 26, "PageReceiver$Page", "number", "I", "PageReceiver"), ("PageReceiver", 104, "PageReceiver$Page", "number", "I", "PageReceiver"), ("PageReceiver$Tuner", 111, "PageReceiver$Page", "subcode", "I", "PageReceiver"), ("PageReceiver$Tuner", 114, "PageReceiver$Page", "set", "I", "PageReceiver"), ("PageReceiver$Screen", 85, "PageReceiver$Page", "set", "I", "PageReceiver"), ("PageReceiver$Shelf", 38, "PageReceiver$Page", "completedBefore", "I", "PageReceiver"), ("PageReceiver$Tuner", 134, "PageReceiver$Page", "links", "[I", "PageReceiver"), ("PageReceiver", 115, "PageReceiver$Remote", "held", "LPageReceiver$Page;", "PageReceiver"), ("PageReceiver$Screen", 66, "PageReceiver$Remote", "wanted", "I", "PageReceiver"), ("PageReceiver$Tuner", 90, "PageReceiver$Remote", "wanted", "I", "PageReceiver"), ("PageReceiver", 109, "PageReceiver$Remote", "wanted", "I", "PageReceiver"), ("PageReceiver", 112, "PageReceiver$Remote", "waiting", "I", "PageReceiver"), ("PageReceiver", 122, "PageReceiver$Remote", "revealed", "Z", "PageReceiver"), ("PageReceiver$Screen", 138, "PageReceiver$Remote", "revealed", "Z", "PageReceiver"), ("PageReceiver", 60, "PageReceiver$Tuner", "rolling", "[I", "PageReceiver"), ("PageReceiver$Screen", 141, "PageReceiver$States", "colour", "I", "PageReceiver"), ("PageReceiver$Screen", 145, "PageReceiver$States", "ground", "I", "PageReceiver"), ("PageReceiver$Screen", 101, "PageReceiver$States", "mosaic", "Z", "PageReceiver"), ("PageReceiver$Screen", 132, "PageReceiver$States", "flash", "Z", "PageReceiver"), ("PageReceiver$Screen", 135, "PageReceiver$States", "conceal", "Z", "PageReceiver"), ("PageReceiver$Screen", 152, "PageReceiver$States", "doubled", "Z", "PageReceiver"), ("PageReceiver$Screen", 117, "PageReceiver$States", "separated", "Z", "PageReceiver"), ("PageReceiver$Screen", 98, "PageReceiver$States", "hold", "Z", "PageReceiver"), ("PageReceiver$Screen", 104, "PageReceiver$States", "heldLetter", "I", "PageReceiver"), ("PageReceiver$Screen", 107, "PageReceiver$States", "heldSeparated", "Z", "PageReceiver"), ("PageReceiver", 96, "PageReceiver$Screen", "light", "Z", "PageReceiver"), ("PageReceiver", 141, "PageReceiver$Screen", "letter", "I", "PageReceiver"), ("PageReceiver", 144, "PageReceiver$Screen", "colour", "I", "PageReceiver"), ("PageReceiver", 147, "PageReceiver$Screen", "ground", "I", "PageReceiver"), ("PageReceiver", 150, "PageReceiver$Screen", "sum", "I", "PageReceiver"), ("PageReceiver$Packet", 22, "PageReceiver", "CODE_WORDS", "[I", "PageReceiver"), ("PageReceiver$Packet", 44, "PageReceiver", "CHECKED_PLACES", "[I", "PageReceiver")]
def pg_nm : List (String × Nat × MethodName × String) := [("PageReceiver$Shelf", 21, ⟨"PageReceiver$Page", "<init>", "()V"⟩, "PageReceiver"), ("PageReceiver$Remote", 11, ⟨"PageReceiver$Page", "<init>", "()V"⟩, "PageReceiver"), ("PageReceiver$Tuner", 39, ⟨"PageReceiver$Page", "<init>", "()V"⟩, "PageReceiver"), ("PageReceiver$Screen", 11, ⟨"PageReceiver$States", "<init>", "()V"⟩, "PageReceiver"), ("PageReceiver$Page", 50, ⟨"PageReceiver", "isCell", "(II)Z"⟩, "PageReceiver")]
def pg_cw : Nat → Int32 := fun j => match j with
  | 0 => 21
  | 1 => 2
  | 2 => 73
  | 3 => 94
  | 4 => 100
  | 5 => 115
  | 6 => 56
  | 7 => 47
  | 8 => 208
  | 9 => 199
  | 10 => 140
  | 11 => 155
  | 12 => 161
  | 13 => 182
  | 14 => 253
  | _ => 234
def pg_cp : Nat → Int32 := fun j => match j with
  | 0 => 5592405
  | 1 => 6710886
  | 2 => 7895160
  | 3 => 32640
  | _ => 8355840
def y_Recv_init : MethodName := ⟨"PageReceiver", "<init>", "(I)V"⟩
abbrev b_Recv_init : ByteArray := prog_1_method_1_code
def y_JObj_init : MethodName := ⟨"java/lang/Object", "<init>", "()V"⟩
abbrev b_JObj_init : ByteArray := object_method_1_code
def y_Packet_init : MethodName := ⟨"PageReceiver$Packet", "<init>", "([I)V"⟩
abbrev b_Packet_init : ByteArray := prog_2_method_1_code
def y_JMath_min : MethodName := ⟨"java/lang/Math", "min", "(II)I"⟩
abbrev b_JMath_min : ByteArray := prog_12_method_69_code
def y_JMath_max : MethodName := ⟨"java/lang/Math", "max", "(II)I"⟩
abbrev b_JMath_max : ByteArray := prog_12_method_65_code
def y_Shelf_init : MethodName := ⟨"PageReceiver$Shelf", "<init>", "(I[I)V"⟩
abbrev b_Shelf_init : ByteArray := prog_6_method_1_code
def y_Page_init : MethodName := ⟨"PageReceiver$Page", "<init>", "()V"⟩
abbrev b_Page_init : ByteArray := prog_3_method_1_code
def y_Remote_init : MethodName := ⟨"PageReceiver$Remote", "<init>", "(LPageReceiver$Shelf;)V"⟩
abbrev b_Remote_init : ByteArray := prog_4_method_1_code
def y_Tuner_init : MethodName := ⟨"PageReceiver$Tuner", "<init>", "(LPageReceiver$Packet;LPageReceiver$Shelf;LPageReceiver$Remote;[I)V"⟩
abbrev b_Tuner_init : ByteArray := prog_8_method_1_code
def y_JArr_fill : MethodName := ⟨"java/util/Arrays", "fill", "([II)V"⟩
abbrev b_JArr_fill : ByteArray := prog_14_method_103_code
def y_Screen_init : MethodName := ⟨"PageReceiver$Screen", "<init>", "(LPageReceiver$Remote;[I)V"⟩
abbrev b_Screen_init : ByteArray := prog_5_method_1_code
def y_States_init : MethodName := ⟨"PageReceiver$States", "<init>", "()V"⟩
abbrev b_States_init : ByteArray := prog_7_method_1_code
def y_Recv_feed : MethodName := ⟨"PageReceiver", "feed", "(JI)I"⟩
abbrev b_Recv_feed : ByteArray := prog_1_method_2_code
def y_Packet_put : MethodName := ⟨"PageReceiver$Packet", "put", "(I)V"⟩
abbrev b_Packet_put : ByteArray := prog_2_method_2_code
def y_Packet_isWhole : MethodName := ⟨"PageReceiver$Packet", "isWhole", "()Z"⟩
abbrev b_Packet_isWhole : ByteArray := prog_2_method_3_code
def y_Tuner_takePacket : MethodName := ⟨"PageReceiver$Tuner", "takePacket", "()V"⟩
abbrev b_Tuner_takePacket : ByteArray := prog_8_method_2_code
def y_Packet_nibble : MethodName := ⟨"PageReceiver$Packet", "nibble", "(I)I"⟩
abbrev b_Packet_nibble : ByteArray := prog_2_method_6_code
def y_Packet_byteAt : MethodName := ⟨"PageReceiver$Packet", "byteAt", "(I)I"⟩
abbrev b_Packet_byteAt : ByteArray := prog_2_method_5_code
def y_JInt_bitCount : MethodName := ⟨"java/lang/Integer", "bitCount", "(I)I"⟩
abbrev b_JInt_bitCount : ByteArray := prog_11_method_49_code
def y_Tuner_takeHeader : MethodName := ⟨"PageReceiver$Tuner", "takeHeader", "(I)V"⟩
abbrev b_Tuner_takeHeader : ByteArray := prog_8_method_4_code
def y_Tuner_readHeader : MethodName := ⟨"PageReceiver$Tuner", "readHeader", "()Z"⟩
abbrev b_Tuner_readHeader : ByteArray := prog_8_method_5_code
def y_Tuner_completeComing : MethodName := ⟨"PageReceiver$Tuner", "completeComing", "(IZ)V"⟩
abbrev b_Tuner_completeComing : ByteArray := prog_8_method_6_code
def y_Shelf_complete : MethodName := ⟨"PageReceiver$Shelf", "complete", "(LPageReceiver$Page;I)V"⟩
abbrev b_Shelf_complete : ByteArray := prog_6_method_4_code
def y_Shelf_placeFor : MethodName := ⟨"PageReceiver$Shelf", "placeFor", "(II)LPageReceiver$Page;"⟩
abbrev b_Shelf_placeFor : ByteArray := prog_6_method_5_code
def y_Shelf_find : MethodName := ⟨"PageReceiver$Shelf", "find", "(I)LPageReceiver$Page;"⟩
abbrev b_Shelf_find : ByteArray := prog_6_method_3_code
def y_Shelf_oldest : MethodName := ⟨"PageReceiver$Shelf", "oldest", "(I)LPageReceiver$Page;"⟩
abbrev b_Shelf_oldest : ByteArray := prog_6_method_6_code
def y_Page_copyFrom : MethodName := ⟨"PageReceiver$Page", "copyFrom", "(LPageReceiver$Page;)V"⟩
abbrev b_Page_copyFrom : ByteArray := prog_3_method_3_code
def y_Tuner_beginPage : MethodName := ⟨"PageReceiver$Tuner", "beginPage", "(I)V"⟩
abbrev b_Tuner_beginPage : ByteArray := prog_8_method_7_code
def y_Page_begin : MethodName := ⟨"PageReceiver$Page", "begin", "(I)V"⟩
abbrev b_Page_begin : ByteArray := prog_3_method_2_code
def y_Tuner_takeHeaderLetters : MethodName := ⟨"PageReceiver$Tuner", "takeHeaderLetters", "(LPageReceiver$Page;Z)V"⟩
abbrev b_Tuner_takeHeaderLetters : ByteArray := prog_8_method_8_code
def y_Packet_letter : MethodName := ⟨"PageReceiver$Packet", "letter", "(I)I"⟩
abbrev b_Packet_letter : ByteArray := prog_2_method_7_code
def y_Packet_isOdd : MethodName := ⟨"PageReceiver$Packet", "isOdd", "(I)Z"⟩
abbrev b_Packet_isOdd : ByteArray := prog_2_method_10_code
def y_Page_setLetter : MethodName := ⟨"PageReceiver$Page", "setLetter", "(III)V"⟩
abbrev b_Page_setLetter : ByteArray := prog_3_method_6_code
def y_Recv_isCell : MethodName := ⟨"PageReceiver", "isCell", "(II)Z"⟩
abbrev b_Recv_isCell : ByteArray := prog_1_method_12_code
def y_Tuner_takeRow : MethodName := ⟨"PageReceiver$Tuner", "takeRow", "(LPageReceiver$Page;II)V"⟩
abbrev b_Tuner_takeRow : ByteArray := prog_8_method_3_code
def y_Tuner_takeLetters : MethodName := ⟨"PageReceiver$Tuner", "takeLetters", "(LPageReceiver$Page;I)V"⟩
abbrev b_Tuner_takeLetters : ByteArray := prog_8_method_9_code
def y_Tuner_takeOverlays : MethodName := ⟨"PageReceiver$Tuner", "takeOverlays", "(LPageReceiver$Page;)V"⟩
abbrev b_Tuner_takeOverlays : ByteArray := prog_8_method_10_code
def y_Packet_triplet : MethodName := ⟨"PageReceiver$Packet", "triplet", "(I)I"⟩
abbrev b_Packet_triplet : ByteArray := prog_2_method_8_code
def y_Packet_failingSum : MethodName := ⟨"PageReceiver$Packet", "failingSum", "(I)I"⟩
abbrev b_Packet_failingSum : ByteArray := prog_2_method_9_code
def y_Packet_bitsOf : MethodName := ⟨"PageReceiver$Packet", "bitsOf", "(I)I"⟩
abbrev b_Packet_bitsOf : ByteArray := prog_2_method_11_code
def y_Tuner_takeTriplet : MethodName := ⟨"PageReceiver$Tuner", "takeTriplet", "(LPageReceiver$Page;II)I"⟩
abbrev b_Tuner_takeTriplet : ByteArray := prog_8_method_11_code
def y_Page_setOverlay : MethodName := ⟨"PageReceiver$Page", "setOverlay", "(III)V"⟩
abbrev b_Page_setOverlay : ByteArray := prog_3_method_7_code
def y_Tuner_takeLinks : MethodName := ⟨"PageReceiver$Tuner", "takeLinks", "(LPageReceiver$Page;I)V"⟩
abbrev b_Tuner_takeLinks : ByteArray := prog_8_method_12_code
def y_Packet_empty : MethodName := ⟨"PageReceiver$Packet", "empty", "()I"⟩
abbrev b_Packet_empty : ByteArray := prog_2_method_4_code
def y_Recv_reset : MethodName := ⟨"PageReceiver", "reset", "()I"⟩
abbrev b_Recv_reset : ByteArray := prog_1_method_3_code
def y_Recv_key : MethodName := ⟨"PageReceiver", "key", "(I)Z"⟩
abbrev b_Recv_key : ByteArray := prog_1_method_4_code
def y_Remote_pressDigit : MethodName := ⟨"PageReceiver$Remote", "pressDigit", "(I)Z"⟩
abbrev b_Remote_pressDigit : ByteArray := prog_4_method_3_code
def y_Remote_want : MethodName := ⟨"PageReceiver$Remote", "want", "(I)V"⟩
abbrev b_Remote_want : ByteArray := prog_4_method_7_code
def y_Remote_pressCommand : MethodName := ⟨"PageReceiver$Remote", "pressCommand", "(I)Z"⟩
abbrev b_Remote_pressCommand : ByteArray := prog_4_method_4_code
def y_Remote_turnHeld : MethodName := ⟨"PageReceiver$Remote", "turnHeld", "()Z"⟩
abbrev b_Remote_turnHeld : ByteArray := prog_4_method_6_code
def y_Remote_pageShown : MethodName := ⟨"PageReceiver$Remote", "pageShown", "()LPageReceiver$Page;"⟩
abbrev b_Remote_pageShown : ByteArray := prog_4_method_2_code
def y_Remote_followLink : MethodName := ⟨"PageReceiver$Remote", "followLink", "(I)Z"⟩
abbrev b_Remote_followLink : ByteArray := prog_4_method_5_code
def y_Page_link : MethodName := ⟨"PageReceiver$Page", "link", "(I)I"⟩
abbrev b_Page_link : ByteArray := prog_3_method_8_code
def y_Recv_tick : MethodName := ⟨"PageReceiver", "tick", "()Z"⟩
abbrev b_Recv_tick : ByteArray := prog_1_method_5_code
def y_Recv_shown : MethodName := ⟨"PageReceiver", "shown", "()I"⟩
abbrev b_Recv_shown : ByteArray := prog_1_method_6_code
def y_Recv_viewer : MethodName := ⟨"PageReceiver", "viewer", "(I)I"⟩
abbrev b_Recv_viewer : ByteArray := prog_1_method_7_code
def y_Recv_kept : MethodName := ⟨"PageReceiver", "kept", "(II)I"⟩
abbrev b_Recv_kept : ByteArray := prog_1_method_8_code
def y_Shelf_pageIn : MethodName := ⟨"PageReceiver$Shelf", "pageIn", "(I)LPageReceiver$Page;"⟩
abbrev b_Shelf_pageIn : ByteArray := prog_6_method_2_code
def y_Page_tell : MethodName := ⟨"PageReceiver$Page", "tell", "(I)I"⟩
abbrev b_Page_tell : ByteArray := prog_3_method_9_code
def y_Recv_count : MethodName := ⟨"PageReceiver", "count", "(I)I"⟩
abbrev b_Recv_count : ByteArray := prog_1_method_9_code
def y_Recv_look : MethodName := ⟨"PageReceiver", "look", "(III)I"⟩
abbrev b_Recv_look : ByteArray := prog_1_method_10_code
def y_Screen_see : MethodName := ⟨"PageReceiver$Screen", "see", "(II)V"⟩
abbrev b_Screen_see : ByteArray := prog_5_method_2_code
def y_Screen_isOwn : MethodName := ⟨"PageReceiver$Screen", "isOwn", "(LPageReceiver$Page;I)Z"⟩
abbrev b_Screen_isOwn : ByteArray := prog_5_method_3_code
def y_Screen_hasDouble : MethodName := ⟨"PageReceiver$Screen", "hasDouble", "(LPageReceiver$Page;I)Z"⟩
abbrev b_Screen_hasDouble : ByteArray := prog_5_method_4_code
def y_Screen_letterAt : MethodName := ⟨"PageReceiver$Screen", "letterAt", "(LPageReceiver$Page;II)I"⟩
abbrev b_Screen_letterAt : ByteArray := prog_5_method_5_code
def y_Screen_headLetter : MethodName := ⟨"PageReceiver$Screen", "headLetter", "(I)I"⟩
abbrev b_Screen_headLetter : ByteArray := prog_5_method_6_code
def y_Screen_digitLetter : MethodName := ⟨"PageReceiver$Screen", "digitLetter", "(I)I"⟩
abbrev b_Screen_digitLetter : ByteArray := prog_5_method_7_code
def y_Page_letterAt : MethodName := ⟨"PageReceiver$Page", "letterAt", "(II)I"⟩
abbrev b_Page_letterAt : ByteArray := prog_3_method_4_code
def y_States_begin : MethodName := ⟨"PageReceiver$States", "begin", "()V"⟩
abbrev b_States_begin : ByteArray := prog_7_method_2_code
def y_States_holdLetter : MethodName := ⟨"PageReceiver$States", "holdLetter", "(IZ)V"⟩
abbrev b_States_holdLetter : ByteArray := prog_7_method_3_code
def y_Screen_drawCell : MethodName := ⟨"PageReceiver$Screen", "drawCell", "(LPageReceiver$Page;II)V"⟩
abbrev b_Screen_drawCell : ByteArray := prog_5_method_9_code
def y_States_doAtOnce : MethodName := ⟨"PageReceiver$States", "doAtOnce", "(I)V"⟩
abbrev b_States_doAtOnce : ByteArray := prog_7_method_6_code
def y_States_turnDouble : MethodName := ⟨"PageReceiver$States", "turnDouble", "(Z)V"⟩
abbrev b_States_turnDouble : ByteArray := prog_7_method_5_code
def y_Screen_drawMark : MethodName := ⟨"PageReceiver$Screen", "drawMark", "()V"⟩
abbrev b_Screen_drawMark : ByteArray := prog_5_method_10_code
def y_Screen_drawBlock : MethodName := ⟨"PageReceiver$Screen", "drawBlock", "(IZ)V"⟩
abbrev b_Screen_drawBlock : ByteArray := prog_5_method_12_code
def y_Screen_drawPlain : MethodName := ⟨"PageReceiver$Screen", "drawPlain", "(I)V"⟩
abbrev b_Screen_drawPlain : ByteArray := prog_5_method_13_code
def y_Screen_overlayAt : MethodName := ⟨"PageReceiver$Screen", "overlayAt", "(LPageReceiver$Page;II)I"⟩
abbrev b_Screen_overlayAt : ByteArray := prog_5_method_8_code
def y_Page_overlayAt : MethodName := ⟨"PageReceiver$Page", "overlayAt", "(II)I"⟩
abbrev b_Page_overlayAt : ByteArray := prog_3_method_5_code
def y_Screen_drawLetter : MethodName := ⟨"PageReceiver$Screen", "drawLetter", "(III)V"⟩
abbrev b_Screen_drawLetter : ByteArray := prog_5_method_11_code
def y_Screen_letterOfSet : MethodName := ⟨"PageReceiver$Screen", "letterOfSet", "(II)I"⟩
abbrev b_Screen_letterOfSet : ByteArray := prog_5_method_15_code
def y_Screen_indexInSet : MethodName := ⟨"PageReceiver$Screen", "indexInSet", "(I)I"⟩
abbrev b_Screen_indexInSet : ByteArray := prog_5_method_16_code
def y_Screen_drawStates : MethodName := ⟨"PageReceiver$Screen", "drawStates", "(I)V"⟩
abbrev b_Screen_drawStates : ByteArray := prog_5_method_14_code
def y_States_sum : MethodName := ⟨"PageReceiver$States", "sum", "()I"⟩
abbrev b_States_sum : ByteArray := prog_7_method_9_code
def y_States_doAfter : MethodName := ⟨"PageReceiver$States", "doAfter", "(I)V"⟩
abbrev b_States_doAfter : ByteArray := prog_7_method_7_code
def y_States_takeColour : MethodName := ⟨"PageReceiver$States", "takeColour", "(IZ)V"⟩
abbrev b_States_takeColour : ByteArray := prog_7_method_8_code
def y_States_turnMosaic : MethodName := ⟨"PageReceiver$States", "turnMosaic", "(Z)V"⟩
abbrev b_States_turnMosaic : ByteArray := prog_7_method_4_code
def y_Screen_turnToLowerHalf : MethodName := ⟨"PageReceiver$Screen", "turnToLowerHalf", "()V"⟩
abbrev b_Screen_turnToLowerHalf : ByteArray := prog_5_method_17_code
def y_Recv_point : MethodName := ⟨"PageReceiver", "point", "(IIII)I"⟩
abbrev b_Recv_point : ByteArray := prog_1_method_11_code
def y_Screen_colourAt : MethodName := ⟨"PageReceiver$Screen", "colourAt", "(II)I"⟩
abbrev b_Screen_colourAt : ByteArray := prog_5_method_18_code
def y_Screen_blockFills : MethodName := ⟨"PageReceiver$Screen", "blockFills", "(II)Z"⟩
abbrev b_Screen_blockFills : ByteArray := prog_5_method_19_code
def y_Screen_letterFills : MethodName := ⟨"PageReceiver$Screen", "letterFills", "(II)Z"⟩
abbrev b_Screen_letterFills : ByteArray := prog_5_method_20_code
def y_Law_cell : MethodName := ⟨"PageReceiverLaw", "cell", "([II)I"⟩
abbrev b_Law_cell : ByteArray := method_2_code
def y_Mod_init : MethodName := ⟨"PageReceiverModel", "<init>", "(I)V"⟩
abbrev b_Mod_init : ByteArray := prog_10_method_1_code
def y_Mod_feed : MethodName := ⟨"PageReceiverModel", "feed", "(JI)I"⟩
abbrev b_Mod_feed : ByteArray := prog_10_method_19_code
def y_Mod_takePacket : MethodName := ⟨"PageReceiverModel", "takePacket", "()V"⟩
abbrev b_Mod_takePacket : ByteArray := prog_10_method_14_code
def y_Mod_nibble : MethodName := ⟨"PageReceiverModel", "nibble", "(I)I"⟩
abbrev b_Mod_nibble : ByteArray := prog_10_method_4_code
def y_Mod_codeOf : MethodName := ⟨"PageReceiverModel", "codeOf", "(I)I"⟩
abbrev b_Mod_codeOf : ByteArray := prog_10_method_3_code
def y_Mod_parity : MethodName := ⟨"PageReceiverModel", "parity", "(I)I"⟩
abbrev b_Mod_parity : ByteArray := prog_10_method_2_code
def y_Mod_drop : MethodName := ⟨"PageReceiverModel", "drop", "()V"⟩
abbrev b_Mod_drop : ByteArray := prog_10_method_13_code
def y_Mod_takeHeader : MethodName := ⟨"PageReceiverModel", "takeHeader", "(I)V"⟩
abbrev b_Mod_takeHeader : ByteArray := prog_10_method_15_code
def y_Mod_complete : MethodName := ⟨"PageReceiverModel", "complete", "(I)V"⟩
abbrev b_Mod_complete : ByteArray := prog_10_method_12_code
def y_Mod_placeFor : MethodName := ⟨"PageReceiverModel", "placeFor", "(I)I"⟩
abbrev b_Mod_placeFor : ByteArray := prog_10_method_11_code
def y_Mod_keptAt : MethodName := ⟨"PageReceiverModel", "keptAt", "(I)I"⟩
abbrev b_Mod_keptAt : ByteArray := prog_10_method_10_code
def y_Mod_copy : MethodName := ⟨"PageReceiverModel", "copy", "(II)V"⟩
abbrev b_Mod_copy : ByteArray := prog_10_method_8_code
def y_Mod_comes : MethodName := ⟨"PageReceiverModel", "comes", "(IIIII)V"⟩
abbrev b_Mod_comes : ByteArray := prog_10_method_16_code
def y_Mod_blank : MethodName := ⟨"PageReceiverModel", "blank", "(I)V"⟩
abbrev b_Mod_blank : ByteArray := prog_10_method_9_code
def y_Mod_letter : MethodName := ⟨"PageReceiverModel", "letter", "(I)I"⟩
abbrev b_Mod_letter : ByteArray := prog_10_method_5_code
def y_Mod_takeOverlays : MethodName := ⟨"PageReceiverModel", "takeOverlays", "(I)V"⟩
abbrev b_Mod_takeOverlays : ByteArray := prog_10_method_17_code
def y_Mod_mended : MethodName := ⟨"PageReceiverModel", "mended", "(I)I"⟩
abbrev b_Mod_mended : ByteArray := prog_10_method_6_code
def y_Mod_told : MethodName := ⟨"PageReceiverModel", "told", "(III)I"⟩
abbrev b_Mod_told : ByteArray := prog_10_method_7_code
def y_Mod_takeLinks : MethodName := ⟨"PageReceiverModel", "takeLinks", "(I)V"⟩
abbrev b_Mod_takeLinks : ByteArray := prog_10_method_18_code
def y_Mod_reset : MethodName := ⟨"PageReceiverModel", "reset", "()I"⟩
abbrev b_Mod_reset : ByteArray := prog_10_method_20_code
def y_Mod_key : MethodName := ⟨"PageReceiverModel", "key", "(I)Z"⟩
abbrev b_Mod_key : ByteArray := prog_10_method_24_code
def y_Mod_digit : MethodName := ⟨"PageReceiverModel", "digit", "(I)Z"⟩
abbrev b_Mod_digit : ByteArray := prog_10_method_23_code
def y_Mod_want : MethodName := ⟨"PageReceiverModel", "want", "(I)V"⟩
abbrev b_Mod_want : ByteArray := prog_10_method_22_code
def y_Mod_shownAt : MethodName := ⟨"PageReceiverModel", "shownAt", "()I"⟩
abbrev b_Mod_shownAt : ByteArray := prog_10_method_21_code
def y_Mod_tick : MethodName := ⟨"PageReceiverModel", "tick", "()Z"⟩
abbrev b_Mod_tick : ByteArray := prog_10_method_25_code
def y_Mod_shown : MethodName := ⟨"PageReceiverModel", "shown", "()I"⟩
abbrev b_Mod_shown : ByteArray := prog_10_method_26_code
def y_Mod_viewer : MethodName := ⟨"PageReceiverModel", "viewer", "(I)I"⟩
abbrev b_Mod_viewer : ByteArray := prog_10_method_27_code
def y_Mod_kept : MethodName := ⟨"PageReceiverModel", "kept", "(II)I"⟩
abbrev b_Mod_kept : ByteArray := prog_10_method_28_code
def y_Mod_count : MethodName := ⟨"PageReceiverModel", "count", "(I)I"⟩
abbrev b_Mod_count : ByteArray := prog_10_method_29_code
def y_Mod_look : MethodName := ⟨"PageReceiverModel", "look", "(III)I"⟩
abbrev b_Mod_look : ByteArray := prog_10_method_44_code
def y_Mod_isCell : MethodName := ⟨"PageReceiverModel", "isCell", "(II)Z"⟩
abbrev b_Mod_isCell : ByteArray := prog_10_method_43_code
def y_Mod_goTo : MethodName := ⟨"PageReceiverModel", "goTo", "(I)V"⟩
abbrev b_Mod_goTo : ByteArray := prog_10_method_42_code
def y_Mod_go : MethodName := ⟨"PageReceiverModel", "go", "(I)Z"⟩
abbrev b_Mod_go : ByteArray := prog_10_method_41_code
def y_Mod_fetch : MethodName := ⟨"PageReceiverModel", "fetch", "(I)V"⟩
abbrev b_Mod_fetch : ByteArray := prog_10_method_31_code
def y_Mod_sign : MethodName := ⟨"PageReceiverModel", "sign", "(I)I"⟩
abbrev b_Mod_sign : ByteArray := prog_10_method_30_code
def y_Mod_begin : MethodName := ⟨"PageReceiverModel", "begin", "()V"⟩
abbrev b_Mod_begin : ByteArray := prog_10_method_32_code
def y_Mod_forget : MethodName := ⟨"PageReceiverModel", "forget", "()V"⟩
abbrev b_Mod_forget : ByteArray := prog_10_method_33_code
def y_Mod_noteLetter : MethodName := ⟨"PageReceiverModel", "noteLetter", "(III)V"⟩
abbrev b_Mod_noteLetter : ByteArray := prog_10_method_40_code
def y_Mod_note : MethodName := ⟨"PageReceiverModel", "note", "(IIZZ)V"⟩
abbrev b_Mod_note : ByteArray := prog_10_method_39_code
def y_Mod_changed : MethodName := ⟨"PageReceiverModel", "changed", "(I)I"⟩
abbrev b_Mod_changed : ByteArray := prog_10_method_38_code
def y_Mod_before : MethodName := ⟨"PageReceiverModel", "before", "(I)V"⟩
abbrev b_Mod_before : ByteArray := prog_10_method_36_code
def y_Mod_setTwice : MethodName := ⟨"PageReceiverModel", "setTwice", "(Z)V"⟩
abbrev b_Mod_setTwice : ByteArray := prog_10_method_34_code
def y_Mod_after : MethodName := ⟨"PageReceiverModel", "after", "(I)V"⟩
abbrev b_Mod_after : ByteArray := prog_10_method_37_code
def y_Mod_setMosaic : MethodName := ⟨"PageReceiverModel", "setMosaic", "(Z)V"⟩
abbrev b_Mod_setMosaic : ByteArray := prog_10_method_35_code
def y_Mod_point : MethodName := ⟨"PageReceiverModel", "point", "(IIII)I"⟩
abbrev b_Mod_point : ByteArray := prog_10_method_45_code
end
section
theorem d_Recv_init_0 : decode b_Recv_init 0 = .ok (.aload_n 0, 1) := by decide +kernel
theorem d_Recv_init_1 : decode b_Recv_init 1 = .ok (.invokespecial 1, 3) := by decide +kernel
theorem d_Recv_init_4 : decode b_Recv_init 4 = .ok (.aload_n 0, 1) := by decide +kernel
theorem d_Recv_init_5 : decode b_Recv_init 5 = .ok (.bipush 6, 2) := by decide +kernel
theorem d_Recv_init_7 : decode b_Recv_init 7 = .ok (.newarray .int, 2) := by decide +kernel
theorem d_Recv_init_9 : decode b_Recv_init 9 = .ok (.putfield 9, 3) := by decide +kernel
theorem d_Recv_init_12 : decode b_Recv_init 12 = .ok (.aload_n 0, 1) := by decide +kernel
theorem d_Recv_init_13 : decode b_Recv_init 13 = .ok (.new 13, 3) := by decide +kernel
theorem d_Recv_init_16 : decode b_Recv_init 16 = .ok (.dup, 1) := by decide +kernel
theorem d_Recv_init_17 : decode b_Recv_init 17 = .ok (.aload_n 0, 1) := by decide +kernel
theorem d_Recv_init_18 : decode b_Recv_init 18 = .ok (.getfield 9, 3) := by decide +kernel
theorem d_Recv_init_21 : decode b_Recv_init 21 = .ok (.invokespecial 15, 3) := by decide +kernel
theorem d_Recv_init_24 : decode b_Recv_init 24 = .ok (.putfield 18, 3) := by decide +kernel
theorem d_Recv_init_27 : decode b_Recv_init 27 = .ok (.aload_n 0, 1) := by decide +kernel
theorem d_Recv_init_28 : decode b_Recv_init 28 = .ok (.new 22, 3) := by decide +kernel
theorem d_Recv_init_31 : decode b_Recv_init 31 = .ok (.dup, 1) := by decide +kernel
theorem d_Recv_init_32 : decode b_Recv_init 32 = .ok (.iconst 1, 1) := by decide +kernel
theorem d_Recv_init_33 : decode b_Recv_init 33 = .ok (.iconst 4, 1) := by decide +kernel
theorem d_Recv_init_34 : decode b_Recv_init 34 = .ok (.iload_n 1, 1) := by decide +kernel
theorem d_Recv_init_35 : decode b_Recv_init 35 = .ok (.invokestatic 24, 3) := by decide +kernel
theorem d_Recv_init_38 : decode b_Recv_init 38 = .ok (.invokestatic 30, 3) := by decide +kernel
theorem d_Recv_init_41 : decode b_Recv_init 41 = .ok (.aload_n 0, 1) := by decide +kernel
theorem d_Recv_init_42 : decode b_Recv_init 42 = .ok (.getfield 9, 3) := by decide +kernel
theorem d_Recv_init_45 : decode b_Recv_init 45 = .ok (.invokespecial 33, 3) := by decide +kernel
theorem d_Recv_init_48 : decode b_Recv_init 48 = .ok (.putfield 36, 3) := by decide +kernel
theorem d_Recv_init_51 : decode b_Recv_init 51 = .ok (.aload_n 0, 1) := by decide +kernel
theorem d_Recv_init_52 : decode b_Recv_init 52 = .ok (.new 40, 3) := by decide +kernel
theorem d_Recv_init_55 : decode b_Recv_init 55 = .ok (.dup, 1) := by decide +kernel
theorem d_Recv_init_56 : decode b_Recv_init 56 = .ok (.aload_n 0, 1) := by decide +kernel
theorem d_Recv_init_57 : decode b_Recv_init 57 = .ok (.getfield 36, 3) := by decide +kernel
theorem d_Recv_init_60 : decode b_Recv_init 60 = .ok (.invokespecial 42, 3) := by decide +kernel
theorem d_Recv_init_63 : decode b_Recv_init 63 = .ok (.putfield 45, 3) := by decide +kernel
theorem d_Recv_init_66 : decode b_Recv_init 66 = .ok (.aload_n 0, 1) := by decide +kernel
theorem d_Recv_init_67 : decode b_Recv_init 67 = .ok (.new 49, 3) := by decide +kernel
theorem d_Recv_init_70 : decode b_Recv_init 70 = .ok (.dup, 1) := by decide +kernel
theorem d_Recv_init_71 : decode b_Recv_init 71 = .ok (.aload_n 0, 1) := by decide +kernel
theorem d_Recv_init_72 : decode b_Recv_init 72 = .ok (.getfield 18, 3) := by decide +kernel
theorem d_Recv_init_75 : decode b_Recv_init 75 = .ok (.aload_n 0, 1) := by decide +kernel
theorem d_Recv_init_76 : decode b_Recv_init 76 = .ok (.getfield 36, 3) := by decide +kernel
theorem d_Recv_init_79 : decode b_Recv_init 79 = .ok (.aload_n 0, 1) := by decide +kernel
theorem d_Recv_init_80 : decode b_Recv_init 80 = .ok (.getfield 45, 3) := by decide +kernel
theorem d_Recv_init_83 : decode b_Recv_init 83 = .ok (.aload_n 0, 1) := by decide +kernel
theorem d_Recv_init_84 : decode b_Recv_init 84 = .ok (.getfield 9, 3) := by decide +kernel
theorem d_Recv_init_87 : decode b_Recv_init 87 = .ok (.invokespecial 51, 3) := by decide +kernel
theorem d_Recv_init_90 : decode b_Recv_init 90 = .ok (.putfield 54, 3) := by decide +kernel
theorem d_Recv_init_93 : decode b_Recv_init 93 = .ok (.aload_n 0, 1) := by decide +kernel
theorem d_Recv_init_94 : decode b_Recv_init 94 = .ok (.new 58, 3) := by decide +kernel
theorem d_Recv_init_97 : decode b_Recv_init 97 = .ok (.dup, 1) := by decide +kernel
theorem d_Recv_init_98 : decode b_Recv_init 98 = .ok (.aload_n 0, 1) := by decide +kernel
theorem d_Recv_init_99 : decode b_Recv_init 99 = .ok (.getfield 45, 3) := by decide +kernel
theorem d_Recv_init_102 : decode b_Recv_init 102 = .ok (.aload_n 0, 1) := by decide +kernel
theorem d_Recv_init_103 : decode b_Recv_init 103 = .ok (.getfield 54, 3) := by decide +kernel
theorem d_Recv_init_106 : decode b_Recv_init 106 = .ok (.getfield 60, 3) := by decide +kernel
theorem d_Recv_init_109 : decode b_Recv_init 109 = .ok (.invokespecial 63, 3) := by decide +kernel
theorem d_Recv_init_112 : decode b_Recv_init 112 = .ok (.putfield 66, 3) := by decide +kernel
theorem d_Recv_init_115 : decode b_Recv_init 115 = .ok (.return_, 1) := by decide +kernel
theorem d_JObj_init_0 : decode b_JObj_init 0 = .ok (.return_, 1) := by decide +kernel
theorem d_Packet_init_0 : decode b_Packet_init 0 = .ok (.aload_n 0, 1) := by decide +kernel
theorem d_Packet_init_1 : decode b_Packet_init 1 = .ok (.invokespecial 3, 3) := by decide +kernel
theorem d_Packet_init_4 : decode b_Packet_init 4 = .ok (.aload_n 0, 1) := by decide +kernel
theorem d_Packet_init_5 : decode b_Packet_init 5 = .ok (.bipush 22, 2) := by decide +kernel
theorem d_Packet_init_7 : decode b_Packet_init 7 = .ok (.newarray .int, 2) := by decide +kernel
theorem d_Packet_init_9 : decode b_Packet_init 9 = .ok (.putfield 9, 3) := by decide +kernel
theorem d_Packet_init_12 : decode b_Packet_init 12 = .ok (.aload_n 0, 1) := by decide +kernel
theorem d_Packet_init_13 : decode b_Packet_init 13 = .ok (.aload_n 1, 1) := by decide +kernel
theorem d_Packet_init_14 : decode b_Packet_init 14 = .ok (.putfield 15, 3) := by decide +kernel
theorem d_Packet_init_17 : decode b_Packet_init 17 = .ok (.return_, 1) := by decide +kernel
theorem d_JMath_min_0 : decode b_JMath_min 0 = .ok (.iload_n 0, 1) := by decide +kernel
theorem d_JMath_min_1 : decode b_JMath_min 1 = .ok (.iload_n 1, 1) := by decide +kernel
theorem d_JMath_min_2 : decode b_JMath_min 2 = .ok (.if_icmp .gt 7, 3) := by decide +kernel
theorem d_JMath_min_5 : decode b_JMath_min 5 = .ok (.iload_n 0, 1) := by decide +kernel
theorem d_JMath_min_6 : decode b_JMath_min 6 = .ok (.goto 4, 3) := by decide +kernel
theorem d_JMath_min_9 : decode b_JMath_min 9 = .ok (.iload_n 1, 1) := by decide +kernel
theorem d_JMath_min_10 : decode b_JMath_min 10 = .ok (.ireturn, 1) := by decide +kernel
theorem d_JMath_max_0 : decode b_JMath_max 0 = .ok (.iload_n 0, 1) := by decide +kernel
theorem d_JMath_max_1 : decode b_JMath_max 1 = .ok (.iload_n 1, 1) := by decide +kernel
theorem d_JMath_max_2 : decode b_JMath_max 2 = .ok (.if_icmp .lt 7, 3) := by decide +kernel
theorem d_JMath_max_5 : decode b_JMath_max 5 = .ok (.iload_n 0, 1) := by decide +kernel
theorem d_JMath_max_6 : decode b_JMath_max 6 = .ok (.goto 4, 3) := by decide +kernel
theorem d_JMath_max_9 : decode b_JMath_max 9 = .ok (.iload_n 1, 1) := by decide +kernel
theorem d_JMath_max_10 : decode b_JMath_max 10 = .ok (.ireturn, 1) := by decide +kernel
theorem d_Shelf_init_0 : decode b_Shelf_init 0 = .ok (.aload_n 0, 1) := by decide +kernel
theorem d_Shelf_init_1 : decode b_Shelf_init 1 = .ok (.invokespecial 3, 3) := by decide +kernel
theorem d_Shelf_init_4 : decode b_Shelf_init 4 = .ok (.aload_n 0, 1) := by decide +kernel
theorem d_Shelf_init_5 : decode b_Shelf_init 5 = .ok (.aload_n 2, 1) := by decide +kernel
theorem d_Shelf_init_6 : decode b_Shelf_init 6 = .ok (.putfield 9, 3) := by decide +kernel
theorem d_Shelf_init_9 : decode b_Shelf_init 9 = .ok (.aload_n 0, 1) := by decide +kernel
theorem d_Shelf_init_10 : decode b_Shelf_init 10 = .ok (.iload_n 1, 1) := by decide +kernel
theorem d_Shelf_init_11 : decode b_Shelf_init 11 = .ok (.anewarray 15, 3) := by decide +kernel
theorem d_Shelf_init_14 : decode b_Shelf_init 14 = .ok (.putfield 17, 3) := by decide +kernel
theorem d_Shelf_init_17 : decode b_Shelf_init 17 = .ok (.iconst 0, 1) := by decide +kernel
theorem d_Shelf_init_18 : decode b_Shelf_init 18 = .ok (.istore_n 3, 1) := by decide +kernel
theorem d_Shelf_init_19 : decode b_Shelf_init 19 = .ok (.iload_n 3, 1) := by decide +kernel
theorem d_Shelf_init_20 : decode b_Shelf_init 20 = .ok (.iload_n 1, 1) := by decide +kernel
theorem d_Shelf_init_21 : decode b_Shelf_init 21 = .ok (.if_icmp .ge 22, 3) := by decide +kernel
theorem d_Shelf_init_24 : decode b_Shelf_init 24 = .ok (.aload_n 0, 1) := by decide +kernel
theorem d_Shelf_init_25 : decode b_Shelf_init 25 = .ok (.getfield 17, 3) := by decide +kernel
theorem d_Shelf_init_28 : decode b_Shelf_init 28 = .ok (.iload_n 3, 1) := by decide +kernel
theorem d_Shelf_init_29 : decode b_Shelf_init 29 = .ok (.new 15, 3) := by decide +kernel
theorem d_Shelf_init_32 : decode b_Shelf_init 32 = .ok (.dup, 1) := by decide +kernel
theorem d_Shelf_init_33 : decode b_Shelf_init 33 = .ok (.invokespecial 21, 3) := by decide +kernel
theorem d_Shelf_init_36 : decode b_Shelf_init 36 = .ok (.aastore, 1) := by decide +kernel
theorem d_Shelf_init_37 : decode b_Shelf_init 37 = .ok (.iinc 3 1, 3) := by decide +kernel
theorem d_Shelf_init_40 : decode b_Shelf_init 40 = .ok (.goto (-21), 3) := by decide +kernel
theorem d_Shelf_init_43 : decode b_Shelf_init 43 = .ok (.return_, 1) := by decide +kernel
theorem d_Page_init_0 : decode b_Page_init 0 = .ok (.aload_n 0, 1) := by decide +kernel
theorem d_Page_init_1 : decode b_Page_init 1 = .ok (.invokespecial 3, 3) := by decide +kernel
theorem d_Page_init_4 : decode b_Page_init 4 = .ok (.aload_n 0, 1) := by decide +kernel
theorem d_Page_init_5 : decode b_Page_init 5 = .ok (.sipush 160, 3) := by decide +kernel
theorem d_Page_init_8 : decode b_Page_init 8 = .ok (.newarray .int, 2) := by decide +kernel
theorem d_Page_init_10 : decode b_Page_init 10 = .ok (.putfield 9, 3) := by decide +kernel
theorem d_Page_init_13 : decode b_Page_init 13 = .ok (.aload_n 0, 1) := by decide +kernel
theorem d_Page_init_14 : decode b_Page_init 14 = .ok (.sipush 160, 3) := by decide +kernel
theorem d_Page_init_17 : decode b_Page_init 17 = .ok (.newarray .int, 2) := by decide +kernel
theorem d_Page_init_19 : decode b_Page_init 19 = .ok (.putfield 15, 3) := by decide +kernel
theorem d_Page_init_22 : decode b_Page_init 22 = .ok (.aload_n 0, 1) := by decide +kernel
theorem d_Page_init_23 : decode b_Page_init 23 = .ok (.iconst 4, 1) := by decide +kernel
theorem d_Page_init_24 : decode b_Page_init 24 = .ok (.newarray .int, 2) := by decide +kernel
theorem d_Page_init_26 : decode b_Page_init 26 = .ok (.putfield 18, 3) := by decide +kernel
theorem d_Page_init_29 : decode b_Page_init 29 = .ok (.return_, 1) := by decide +kernel
theorem d_Remote_init_0 : decode b_Remote_init 0 = .ok (.aload_n 0, 1) := by decide +kernel
theorem d_Remote_init_1 : decode b_Remote_init 1 = .ok (.invokespecial 3, 3) := by decide +kernel
theorem d_Remote_init_4 : decode b_Remote_init 4 = .ok (.aload_n 0, 1) := by decide +kernel
theorem d_Remote_init_5 : decode b_Remote_init 5 = .ok (.new 9, 3) := by decide +kernel
theorem d_Remote_init_8 : decode b_Remote_init 8 = .ok (.dup, 1) := by decide +kernel
theorem d_Remote_init_9 : decode b_Remote_init 9 = .ok (.invokespecial 11, 3) := by decide +kernel
theorem d_Remote_init_12 : decode b_Remote_init 12 = .ok (.putfield 12, 3) := by decide +kernel
theorem d_Remote_init_15 : decode b_Remote_init 15 = .ok (.aload_n 0, 1) := by decide +kernel
theorem d_Remote_init_16 : decode b_Remote_init 16 = .ok (.sipush 256, 3) := by decide +kernel
theorem d_Remote_init_19 : decode b_Remote_init 19 = .ok (.putfield 18, 3) := by decide +kernel
theorem d_Remote_init_22 : decode b_Remote_init 22 = .ok (.aload_n 0, 1) := by decide +kernel
theorem d_Remote_init_23 : decode b_Remote_init 23 = .ok (.aload_n 1, 1) := by decide +kernel
theorem d_Remote_init_24 : decode b_Remote_init 24 = .ok (.putfield 22, 3) := by decide +kernel
theorem d_Remote_init_27 : decode b_Remote_init 27 = .ok (.return_, 1) := by decide +kernel
theorem d_Tuner_init_0 : decode b_Tuner_init 0 = .ok (.aload_n 0, 1) := by decide +kernel
theorem d_Tuner_init_1 : decode b_Tuner_init 1 = .ok (.invokespecial 3, 3) := by decide +kernel
theorem d_Tuner_init_4 : decode b_Tuner_init 4 = .ok (.aload_n 0, 1) := by decide +kernel
theorem d_Tuner_init_5 : decode b_Tuner_init 5 = .ok (.bipush 8, 2) := by decide +kernel
theorem d_Tuner_init_7 : decode b_Tuner_init 7 = .ok (.anewarray 9, 3) := by decide +kernel
theorem d_Tuner_init_10 : decode b_Tuner_init 10 = .ok (.putfield 11, 3) := by decide +kernel
theorem d_Tuner_init_13 : decode b_Tuner_init 13 = .ok (.aload_n 0, 1) := by decide +kernel
theorem d_Tuner_init_14 : decode b_Tuner_init 14 = .ok (.bipush 20, 2) := by decide +kernel
theorem d_Tuner_init_16 : decode b_Tuner_init 16 = .ok (.newarray .int, 2) := by decide +kernel
theorem d_Tuner_init_18 : decode b_Tuner_init 18 = .ok (.putfield 17, 3) := by decide +kernel
theorem d_Tuner_init_21 : decode b_Tuner_init 21 = .ok (.aload_n 0, 1) := by decide +kernel
theorem d_Tuner_init_22 : decode b_Tuner_init 22 = .ok (.bipush 6, 2) := by decide +kernel
theorem d_Tuner_init_24 : decode b_Tuner_init 24 = .ok (.newarray .int, 2) := by decide +kernel
theorem d_Tuner_init_26 : decode b_Tuner_init 26 = .ok (.putfield 21, 3) := by decide +kernel
theorem d_Tuner_init_29 : decode b_Tuner_init 29 = .ok (.aload_n 0, 1) := by decide +kernel
theorem d_Tuner_init_30 : decode b_Tuner_init 30 = .ok (.aload_n 1, 1) := by decide +kernel
theorem d_Tuner_init_31 : decode b_Tuner_init 31 = .ok (.putfield 24, 3) := by decide +kernel
theorem d_Tuner_init_34 : decode b_Tuner_init 34 = .ok (.aload_n 0, 1) := by decide +kernel
theorem d_Tuner_init_35 : decode b_Tuner_init 35 = .ok (.aload_n 2, 1) := by decide +kernel
theorem d_Tuner_init_36 : decode b_Tuner_init 36 = .ok (.putfield 28, 3) := by decide +kernel
theorem d_Tuner_init_39 : decode b_Tuner_init 39 = .ok (.aload_n 0, 1) := by decide +kernel
theorem d_Tuner_init_40 : decode b_Tuner_init 40 = .ok (.aload_n 3, 1) := by decide +kernel
theorem d_Tuner_init_41 : decode b_Tuner_init 41 = .ok (.putfield 32, 3) := by decide +kernel
theorem d_Tuner_init_44 : decode b_Tuner_init 44 = .ok (.aload_n 0, 1) := by decide +kernel
theorem d_Tuner_init_45 : decode b_Tuner_init 45 = .ok (.aload 4, 2) := by decide +kernel
theorem d_Tuner_init_47 : decode b_Tuner_init 47 = .ok (.putfield 36, 3) := by decide +kernel
theorem d_Tuner_init_50 : decode b_Tuner_init 50 = .ok (.iconst 0, 1) := by decide +kernel
theorem d_Tuner_init_51 : decode b_Tuner_init 51 = .ok (.istore 5, 2) := by decide +kernel
theorem d_Tuner_init_53 : decode b_Tuner_init 53 = .ok (.iload 5, 2) := by decide +kernel
theorem d_Tuner_init_55 : decode b_Tuner_init 55 = .ok (.bipush 8, 2) := by decide +kernel
theorem d_Tuner_init_57 : decode b_Tuner_init 57 = .ok (.if_icmp .ge 23, 3) := by decide +kernel
theorem d_Tuner_init_60 : decode b_Tuner_init 60 = .ok (.aload_n 0, 1) := by decide +kernel
theorem d_Tuner_init_61 : decode b_Tuner_init 61 = .ok (.getfield 11, 3) := by decide +kernel
theorem d_Tuner_init_64 : decode b_Tuner_init 64 = .ok (.iload 5, 2) := by decide +kernel
theorem d_Tuner_init_66 : decode b_Tuner_init 66 = .ok (.new 9, 3) := by decide +kernel
theorem d_Tuner_init_69 : decode b_Tuner_init 69 = .ok (.dup, 1) := by decide +kernel
theorem d_Tuner_init_70 : decode b_Tuner_init 70 = .ok (.invokespecial 39, 3) := by decide +kernel
theorem d_Tuner_init_73 : decode b_Tuner_init 73 = .ok (.aastore, 1) := by decide +kernel
theorem d_Tuner_init_74 : decode b_Tuner_init 74 = .ok (.iinc 5 1, 3) := by decide +kernel
theorem d_Tuner_init_77 : decode b_Tuner_init 77 = .ok (.goto (-24), 3) := by decide +kernel
theorem d_Tuner_init_80 : decode b_Tuner_init 80 = .ok (.aload_n 0, 1) := by decide +kernel
theorem d_Tuner_init_81 : decode b_Tuner_init 81 = .ok (.getfield 17, 3) := by decide +kernel
theorem d_Tuner_init_84 : decode b_Tuner_init 84 = .ok (.bipush 32, 2) := by decide +kernel
theorem d_Tuner_init_86 : decode b_Tuner_init 86 = .ok (.invokestatic 40, 3) := by decide +kernel
theorem d_Tuner_init_89 : decode b_Tuner_init 89 = .ok (.return_, 1) := by decide +kernel
theorem d_JArr_fill_0 : decode b_JArr_fill 0 = .ok (.iconst 0, 1) := by decide +kernel
theorem d_JArr_fill_1 : decode b_JArr_fill 1 = .ok (.istore_n 2, 1) := by decide +kernel
theorem d_JArr_fill_2 : decode b_JArr_fill 2 = .ok (.aload_n 0, 1) := by decide +kernel
theorem d_JArr_fill_3 : decode b_JArr_fill 3 = .ok (.arraylength, 1) := by decide +kernel
theorem d_JArr_fill_4 : decode b_JArr_fill 4 = .ok (.istore_n 3, 1) := by decide +kernel
theorem d_JArr_fill_5 : decode b_JArr_fill 5 = .ok (.iload_n 2, 1) := by decide +kernel
theorem d_JArr_fill_6 : decode b_JArr_fill 6 = .ok (.iload_n 3, 1) := by decide +kernel
theorem d_JArr_fill_7 : decode b_JArr_fill 7 = .ok (.if_icmp .ge 13, 3) := by decide +kernel
theorem d_JArr_fill_10 : decode b_JArr_fill 10 = .ok (.aload_n 0, 1) := by decide +kernel
theorem d_JArr_fill_11 : decode b_JArr_fill 11 = .ok (.iload_n 2, 1) := by decide +kernel
theorem d_JArr_fill_12 : decode b_JArr_fill 12 = .ok (.iload_n 1, 1) := by decide +kernel
theorem d_JArr_fill_13 : decode b_JArr_fill 13 = .ok (.iastore, 1) := by decide +kernel
theorem d_JArr_fill_14 : decode b_JArr_fill 14 = .ok (.iinc 2 1, 3) := by decide +kernel
theorem d_JArr_fill_17 : decode b_JArr_fill 17 = .ok (.goto (-12), 3) := by decide +kernel
theorem d_JArr_fill_20 : decode b_JArr_fill 20 = .ok (.return_, 1) := by decide +kernel
theorem d_Screen_init_0 : decode b_Screen_init 0 = .ok (.aload_n 0, 1) := by decide +kernel
theorem d_Screen_init_1 : decode b_Screen_init 1 = .ok (.invokespecial 3, 3) := by decide +kernel
theorem d_Screen_init_4 : decode b_Screen_init 4 = .ok (.aload_n 0, 1) := by decide +kernel
theorem d_Screen_init_5 : decode b_Screen_init 5 = .ok (.new 9, 3) := by decide +kernel
theorem d_Screen_init_8 : decode b_Screen_init 8 = .ok (.dup, 1) := by decide +kernel
theorem d_Screen_init_9 : decode b_Screen_init 9 = .ok (.invokespecial 11, 3) := by decide +kernel
theorem d_Screen_init_12 : decode b_Screen_init 12 = .ok (.putfield 12, 3) := by decide +kernel
theorem d_Screen_init_15 : decode b_Screen_init 15 = .ok (.aload_n 0, 1) := by decide +kernel
theorem d_Screen_init_16 : decode b_Screen_init 16 = .ok (.iconst 1, 1) := by decide +kernel
theorem d_Screen_init_17 : decode b_Screen_init 17 = .ok (.putfield 18, 3) := by decide +kernel
theorem d_Screen_init_20 : decode b_Screen_init 20 = .ok (.aload_n 0, 1) := by decide +kernel
theorem d_Screen_init_21 : decode b_Screen_init 21 = .ok (.aload_n 1, 1) := by decide +kernel
theorem d_Screen_init_22 : decode b_Screen_init 22 = .ok (.putfield 22, 3) := by decide +kernel
theorem d_Screen_init_25 : decode b_Screen_init 25 = .ok (.aload_n 0, 1) := by decide +kernel
theorem d_Screen_init_26 : decode b_Screen_init 26 = .ok (.aload_n 2, 1) := by decide +kernel
theorem d_Screen_init_27 : decode b_Screen_init 27 = .ok (.putfield 26, 3) := by decide +kernel
theorem d_Screen_init_30 : decode b_Screen_init 30 = .ok (.return_, 1) := by decide +kernel
theorem d_States_init_0 : decode b_States_init 0 = .ok (.aload_n 0, 1) := by decide +kernel
theorem d_States_init_1 : decode b_States_init 1 = .ok (.invokespecial 3, 3) := by decide +kernel
theorem d_States_init_4 : decode b_States_init 4 = .ok (.return_, 1) := by decide +kernel
theorem d_Recv_feed_0 : decode b_Recv_feed 0 = .ok (.iload_n 3, 1) := by decide +kernel
theorem d_Recv_feed_1 : decode b_Recv_feed 1 = .ok (.iconst 1, 1) := by decide +kernel
theorem d_Recv_feed_2 : decode b_Recv_feed 2 = .ok (.if_icmp .lt 9, 3) := by decide +kernel
theorem d_Recv_feed_5 : decode b_Recv_feed 5 = .ok (.iload_n 3, 1) := by decide +kernel
theorem d_Recv_feed_6 : decode b_Recv_feed 6 = .ok (.bipush 8, 2) := by decide +kernel
theorem d_Recv_feed_8 : decode b_Recv_feed 8 = .ok (.if_icmp .le 5, 3) := by decide +kernel
theorem d_Recv_feed_11 : decode b_Recv_feed 11 = .ok (.iconst (-1), 1) := by decide +kernel
theorem d_Recv_feed_12 : decode b_Recv_feed 12 = .ok (.ireturn, 1) := by decide +kernel
theorem d_Recv_feed_13 : decode b_Recv_feed 13 = .ok (.iload_n 3, 1) := by decide +kernel
theorem d_Recv_feed_14 : decode b_Recv_feed 14 = .ok (.iconst 1, 1) := by decide +kernel
theorem d_Recv_feed_15 : decode b_Recv_feed 15 = .ok (.isub, 1) := by decide +kernel
theorem d_Recv_feed_16 : decode b_Recv_feed 16 = .ok (.istore 4, 2) := by decide +kernel
theorem d_Recv_feed_18 : decode b_Recv_feed 18 = .ok (.iload 4, 2) := by decide +kernel
theorem d_Recv_feed_20 : decode b_Recv_feed 20 = .ok (.ifCond .lt 53, 3) := by decide +kernel
theorem d_Recv_feed_23 : decode b_Recv_feed 23 = .ok (.aload_n 0, 1) := by decide +kernel
theorem d_Recv_feed_24 : decode b_Recv_feed 24 = .ok (.getfield 18, 3) := by decide +kernel
theorem d_Recv_feed_27 : decode b_Recv_feed 27 = .ok (.lload_n 1, 1) := by decide +kernel
theorem d_Recv_feed_28 : decode b_Recv_feed 28 = .ok (.bipush 8, 2) := by decide +kernel
theorem d_Recv_feed_30 : decode b_Recv_feed 30 = .ok (.iload 4, 2) := by decide +kernel
theorem d_Recv_feed_32 : decode b_Recv_feed 32 = .ok (.imul, 1) := by decide +kernel
theorem d_Recv_feed_33 : decode b_Recv_feed 33 = .ok (.lushr, 1) := by decide +kernel
theorem d_Recv_feed_34 : decode b_Recv_feed 34 = .ok (.l2i, 1) := by decide +kernel
theorem d_Recv_feed_35 : decode b_Recv_feed 35 = .ok (.sipush 255, 3) := by decide +kernel
theorem d_Recv_feed_38 : decode b_Recv_feed 38 = .ok (.iand, 1) := by decide +kernel
theorem d_Recv_feed_39 : decode b_Recv_feed 39 = .ok (.invokevirtual 70, 3) := by decide +kernel
theorem d_Recv_feed_42 : decode b_Recv_feed 42 = .ok (.aload_n 0, 1) := by decide +kernel
theorem d_Recv_feed_43 : decode b_Recv_feed 43 = .ok (.getfield 18, 3) := by decide +kernel
theorem d_Recv_feed_46 : decode b_Recv_feed 46 = .ok (.invokevirtual 74, 3) := by decide +kernel
theorem d_Recv_feed_49 : decode b_Recv_feed 49 = .ok (.ifCond .eq 18, 3) := by decide +kernel
theorem d_Recv_feed_52 : decode b_Recv_feed 52 = .ok (.aload_n 0, 1) := by decide +kernel
theorem d_Recv_feed_53 : decode b_Recv_feed 53 = .ok (.getfield 54, 3) := by decide +kernel
theorem d_Recv_feed_56 : decode b_Recv_feed 56 = .ok (.invokevirtual 78, 3) := by decide +kernel
theorem d_Recv_feed_59 : decode b_Recv_feed 59 = .ok (.aload_n 0, 1) := by decide +kernel
theorem d_Recv_feed_60 : decode b_Recv_feed 60 = .ok (.getfield 18, 3) := by decide +kernel
theorem d_Recv_feed_63 : decode b_Recv_feed 63 = .ok (.invokevirtual 81, 3) := by decide +kernel
theorem d_Recv_feed_66 : decode b_Recv_feed 66 = .ok (.pop, 1) := by decide +kernel
theorem d_Recv_feed_67 : decode b_Recv_feed 67 = .ok (.iinc 4 (-1), 3) := by decide +kernel
theorem d_Recv_feed_70 : decode b_Recv_feed 70 = .ok (.goto (-52), 3) := by decide +kernel
theorem d_Recv_feed_73 : decode b_Recv_feed 73 = .ok (.aload_n 0, 1) := by decide +kernel
theorem d_Recv_feed_74 : decode b_Recv_feed 74 = .ok (.getfield 18, 3) := by decide +kernel
theorem d_Recv_feed_77 : decode b_Recv_feed 77 = .ok (.getfield 85, 3) := by decide +kernel
theorem d_Recv_feed_80 : decode b_Recv_feed 80 = .ok (.ireturn, 1) := by decide +kernel
theorem d_Packet_put_0 : decode b_Packet_put 0 = .ok (.aload_n 0, 1) := by decide +kernel
theorem d_Packet_put_1 : decode b_Packet_put 1 = .ok (.getfield 18, 3) := by decide +kernel
theorem d_Packet_put_4 : decode b_Packet_put 4 = .ok (.bipush 22, 2) := by decide +kernel
theorem d_Packet_put_6 : decode b_Packet_put 6 = .ok (.if_icmp .ge 23, 3) := by decide +kernel
theorem d_Packet_put_9 : decode b_Packet_put 9 = .ok (.aload_n 0, 1) := by decide +kernel
theorem d_Packet_put_10 : decode b_Packet_put 10 = .ok (.getfield 9, 3) := by decide +kernel
theorem d_Packet_put_13 : decode b_Packet_put 13 = .ok (.aload_n 0, 1) := by decide +kernel
theorem d_Packet_put_14 : decode b_Packet_put 14 = .ok (.getfield 18, 3) := by decide +kernel
theorem d_Packet_put_17 : decode b_Packet_put 17 = .ok (.iload_n 1, 1) := by decide +kernel
theorem d_Packet_put_18 : decode b_Packet_put 18 = .ok (.iastore, 1) := by decide +kernel
theorem d_Packet_put_19 : decode b_Packet_put 19 = .ok (.aload_n 0, 1) := by decide +kernel
theorem d_Packet_put_20 : decode b_Packet_put 20 = .ok (.dup, 1) := by decide +kernel
theorem d_Packet_put_21 : decode b_Packet_put 21 = .ok (.getfield 18, 3) := by decide +kernel
theorem d_Packet_put_24 : decode b_Packet_put 24 = .ok (.iconst 1, 1) := by decide +kernel
theorem d_Packet_put_25 : decode b_Packet_put 25 = .ok (.iadd, 1) := by decide +kernel
theorem d_Packet_put_26 : decode b_Packet_put 26 = .ok (.putfield 18, 3) := by decide +kernel
theorem d_Packet_put_29 : decode b_Packet_put 29 = .ok (.return_, 1) := by decide +kernel
theorem d_Packet_isWhole_0 : decode b_Packet_isWhole 0 = .ok (.aload_n 0, 1) := by decide +kernel
theorem d_Packet_isWhole_1 : decode b_Packet_isWhole 1 = .ok (.getfield 18, 3) := by decide +kernel
theorem d_Packet_isWhole_4 : decode b_Packet_isWhole 4 = .ok (.bipush 22, 2) := by decide +kernel
theorem d_Packet_isWhole_6 : decode b_Packet_isWhole 6 = .ok (.if_icmp .ne 7, 3) := by decide +kernel
theorem d_Packet_isWhole_9 : decode b_Packet_isWhole 9 = .ok (.iconst 1, 1) := by decide +kernel
theorem d_Packet_isWhole_10 : decode b_Packet_isWhole 10 = .ok (.goto 4, 3) := by decide +kernel
theorem d_Packet_isWhole_13 : decode b_Packet_isWhole 13 = .ok (.iconst 0, 1) := by decide +kernel
theorem d_Packet_isWhole_14 : decode b_Packet_isWhole 14 = .ok (.ireturn, 1) := by decide +kernel
theorem d_Tuner_takePacket_0 : decode b_Tuner_takePacket 0 = .ok (.aload_n 0, 1) := by decide +kernel
theorem d_Tuner_takePacket_1 : decode b_Tuner_takePacket 1 = .ok (.getfield 36, 3) := by decide +kernel
theorem d_Tuner_takePacket_4 : decode b_Tuner_takePacket 4 = .ok (.iconst 0, 1) := by decide +kernel
theorem d_Tuner_takePacket_5 : decode b_Tuner_takePacket 5 = .ok (.dup2, 1) := by decide +kernel
theorem d_Tuner_takePacket_6 : decode b_Tuner_takePacket 6 = .ok (.iaload, 1) := by decide +kernel
theorem d_Tuner_takePacket_7 : decode b_Tuner_takePacket 7 = .ok (.iconst 1, 1) := by decide +kernel
theorem d_Tuner_takePacket_8 : decode b_Tuner_takePacket 8 = .ok (.iadd, 1) := by decide +kernel
theorem d_Tuner_takePacket_9 : decode b_Tuner_takePacket 9 = .ok (.iastore, 1) := by decide +kernel
theorem d_Tuner_takePacket_10 : decode b_Tuner_takePacket 10 = .ok (.aload_n 0, 1) := by decide +kernel
theorem d_Tuner_takePacket_11 : decode b_Tuner_takePacket 11 = .ok (.getfield 24, 3) := by decide +kernel
theorem d_Tuner_takePacket_14 : decode b_Tuner_takePacket 14 = .ok (.iconst 0, 1) := by decide +kernel
theorem d_Tuner_takePacket_15 : decode b_Tuner_takePacket 15 = .ok (.invokevirtual 46, 3) := by decide +kernel
theorem d_Tuner_takePacket_18 : decode b_Tuner_takePacket 18 = .ok (.istore_n 1, 1) := by decide +kernel
theorem d_Tuner_takePacket_19 : decode b_Tuner_takePacket 19 = .ok (.iload_n 1, 1) := by decide +kernel
theorem d_Tuner_takePacket_20 : decode b_Tuner_takePacket 20 = .ok (.iconst (-1), 1) := by decide +kernel
theorem d_Tuner_takePacket_21 : decode b_Tuner_takePacket 21 = .ok (.if_icmp .ne 7, 3) := by decide +kernel
theorem d_Tuner_takePacket_24 : decode b_Tuner_takePacket 24 = .ok (.iconst (-1), 1) := by decide +kernel
theorem d_Tuner_takePacket_25 : decode b_Tuner_takePacket 25 = .ok (.goto 11, 3) := by decide +kernel
theorem d_Tuner_takePacket_28 : decode b_Tuner_takePacket 28 = .ok (.aload_n 0, 1) := by decide +kernel
theorem d_Tuner_takePacket_29 : decode b_Tuner_takePacket 29 = .ok (.getfield 24, 3) := by decide +kernel
theorem d_Tuner_takePacket_32 : decode b_Tuner_takePacket 32 = .ok (.iconst 1, 1) := by decide +kernel
theorem d_Tuner_takePacket_33 : decode b_Tuner_takePacket 33 = .ok (.invokevirtual 46, 3) := by decide +kernel
theorem d_Tuner_takePacket_36 : decode b_Tuner_takePacket 36 = .ok (.istore_n 2, 1) := by decide +kernel
theorem d_Tuner_takePacket_37 : decode b_Tuner_takePacket 37 = .ok (.iload_n 2, 1) := by decide +kernel
theorem d_Tuner_takePacket_38 : decode b_Tuner_takePacket 38 = .ok (.iconst (-1), 1) := by decide +kernel
theorem d_Tuner_takePacket_39 : decode b_Tuner_takePacket 39 = .ok (.if_icmp .ne 14, 3) := by decide +kernel
theorem d_Tuner_takePacket_42 : decode b_Tuner_takePacket 42 = .ok (.aload_n 0, 1) := by decide +kernel
theorem d_Tuner_takePacket_43 : decode b_Tuner_takePacket 43 = .ok (.getfield 36, 3) := by decide +kernel
theorem d_Tuner_takePacket_46 : decode b_Tuner_takePacket 46 = .ok (.iconst 1, 1) := by decide +kernel
theorem d_Tuner_takePacket_47 : decode b_Tuner_takePacket 47 = .ok (.dup2, 1) := by decide +kernel
theorem d_Tuner_takePacket_48 : decode b_Tuner_takePacket 48 = .ok (.iaload, 1) := by decide +kernel
theorem d_Tuner_takePacket_49 : decode b_Tuner_takePacket 49 = .ok (.iconst 1, 1) := by decide +kernel
theorem d_Tuner_takePacket_50 : decode b_Tuner_takePacket 50 = .ok (.iadd, 1) := by decide +kernel
theorem d_Tuner_takePacket_51 : decode b_Tuner_takePacket 51 = .ok (.iastore, 1) := by decide +kernel
theorem d_Tuner_takePacket_52 : decode b_Tuner_takePacket 52 = .ok (.return_, 1) := by decide +kernel
theorem d_Tuner_takePacket_53 : decode b_Tuner_takePacket 53 = .ok (.iload_n 1, 1) := by decide +kernel
theorem d_Tuner_takePacket_54 : decode b_Tuner_takePacket 54 = .ok (.bipush 8, 2) := by decide +kernel
theorem d_Tuner_takePacket_56 : decode b_Tuner_takePacket 56 = .ok (.irem, 1) := by decide +kernel
theorem d_Tuner_takePacket_57 : decode b_Tuner_takePacket 57 = .ok (.istore_n 3, 1) := by decide +kernel
theorem d_Tuner_takePacket_58 : decode b_Tuner_takePacket 58 = .ok (.iload_n 1, 1) := by decide +kernel
theorem d_Tuner_takePacket_59 : decode b_Tuner_takePacket 59 = .ok (.bipush 8, 2) := by decide +kernel
theorem d_Tuner_takePacket_61 : decode b_Tuner_takePacket 61 = .ok (.idiv, 1) := by decide +kernel
theorem d_Tuner_takePacket_62 : decode b_Tuner_takePacket 62 = .ok (.iconst 2, 1) := by decide +kernel
theorem d_Tuner_takePacket_63 : decode b_Tuner_takePacket 63 = .ok (.iload_n 2, 1) := by decide +kernel
theorem d_Tuner_takePacket_64 : decode b_Tuner_takePacket 64 = .ok (.imul, 1) := by decide +kernel
theorem d_Tuner_takePacket_65 : decode b_Tuner_takePacket 65 = .ok (.iadd, 1) := by decide +kernel
theorem d_Tuner_takePacket_66 : decode b_Tuner_takePacket 66 = .ok (.istore 4, 2) := by decide +kernel
theorem d_Tuner_takePacket_68 : decode b_Tuner_takePacket 68 = .ok (.iload 4, 2) := by decide +kernel
theorem d_Tuner_takePacket_70 : decode b_Tuner_takePacket 70 = .ok (.ifCond .ne 11, 3) := by decide +kernel
theorem d_Tuner_takePacket_73 : decode b_Tuner_takePacket 73 = .ok (.aload_n 0, 1) := by decide +kernel
theorem d_Tuner_takePacket_74 : decode b_Tuner_takePacket 74 = .ok (.iload_n 3, 1) := by decide +kernel
theorem d_Tuner_takePacket_75 : decode b_Tuner_takePacket 75 = .ok (.invokevirtual 52, 3) := by decide +kernel
theorem d_Tuner_takePacket_78 : decode b_Tuner_takePacket 78 = .ok (.goto 28, 3) := by decide +kernel
theorem d_Tuner_takePacket_81 : decode b_Tuner_takePacket 81 = .ok (.aload_n 0, 1) := by decide +kernel
theorem d_Tuner_takePacket_82 : decode b_Tuner_takePacket 82 = .ok (.getfield 11, 3) := by decide +kernel
theorem d_Tuner_takePacket_85 : decode b_Tuner_takePacket 85 = .ok (.iload_n 3, 1) := by decide +kernel
theorem d_Tuner_takePacket_86 : decode b_Tuner_takePacket 86 = .ok (.aaload, 1) := by decide +kernel
theorem d_Tuner_takePacket_87 : decode b_Tuner_takePacket 87 = .ok (.getfield 56, 3) := by decide +kernel
theorem d_Tuner_takePacket_90 : decode b_Tuner_takePacket 90 = .ok (.ifCond .eq 16, 3) := by decide +kernel
theorem d_Tuner_takePacket_93 : decode b_Tuner_takePacket 93 = .ok (.aload_n 0, 1) := by decide +kernel
theorem d_Tuner_takePacket_94 : decode b_Tuner_takePacket 94 = .ok (.aload_n 0, 1) := by decide +kernel
theorem d_Tuner_takePacket_95 : decode b_Tuner_takePacket 95 = .ok (.getfield 11, 3) := by decide +kernel
theorem d_Tuner_takePacket_98 : decode b_Tuner_takePacket 98 = .ok (.iload_n 3, 1) := by decide +kernel
theorem d_Tuner_takePacket_99 : decode b_Tuner_takePacket 99 = .ok (.aaload, 1) := by decide +kernel
theorem d_Tuner_takePacket_100 : decode b_Tuner_takePacket 100 = .ok (.iload_n 3, 1) := by decide +kernel
theorem d_Tuner_takePacket_101 : decode b_Tuner_takePacket 101 = .ok (.iload 4, 2) := by decide +kernel
theorem d_Tuner_takePacket_103 : decode b_Tuner_takePacket 103 = .ok (.invokevirtual 60, 3) := by decide +kernel
theorem d_Tuner_takePacket_106 : decode b_Tuner_takePacket 106 = .ok (.return_, 1) := by decide +kernel
theorem d_Packet_nibble_0 : decode b_Packet_nibble 0 = .ok (.iconst 0, 1) := by decide +kernel
theorem d_Packet_nibble_1 : decode b_Packet_nibble 1 = .ok (.istore_n 2, 1) := by decide +kernel
theorem d_Packet_nibble_2 : decode b_Packet_nibble 2 = .ok (.iload_n 2, 1) := by decide +kernel
theorem d_Packet_nibble_3 : decode b_Packet_nibble 3 = .ok (.getstatic 22, 3) := by decide +kernel
theorem d_Packet_nibble_6 : decode b_Packet_nibble 6 = .ok (.arraylength, 1) := by decide +kernel
theorem d_Packet_nibble_7 : decode b_Packet_nibble 7 = .ok (.if_icmp .ge 41, 3) := by decide +kernel
theorem d_Packet_nibble_10 : decode b_Packet_nibble 10 = .ok (.getstatic 22, 3) := by decide +kernel
theorem d_Packet_nibble_13 : decode b_Packet_nibble 13 = .ok (.iload_n 2, 1) := by decide +kernel
theorem d_Packet_nibble_14 : decode b_Packet_nibble 14 = .ok (.iaload, 1) := by decide +kernel
theorem d_Packet_nibble_15 : decode b_Packet_nibble 15 = .ok (.aload_n 0, 1) := by decide +kernel
theorem d_Packet_nibble_16 : decode b_Packet_nibble 16 = .ok (.iload_n 1, 1) := by decide +kernel
theorem d_Packet_nibble_17 : decode b_Packet_nibble 17 = .ok (.invokevirtual 25, 3) := by decide +kernel
theorem d_Packet_nibble_20 : decode b_Packet_nibble 20 = .ok (.ixor, 1) := by decide +kernel
theorem d_Packet_nibble_21 : decode b_Packet_nibble 21 = .ok (.invokestatic 29, 3) := by decide +kernel
theorem d_Packet_nibble_24 : decode b_Packet_nibble 24 = .ok (.istore_n 3, 1) := by decide +kernel
theorem d_Packet_nibble_25 : decode b_Packet_nibble 25 = .ok (.iload_n 3, 1) := by decide +kernel
theorem d_Packet_nibble_26 : decode b_Packet_nibble 26 = .ok (.iconst 1, 1) := by decide +kernel
theorem d_Packet_nibble_27 : decode b_Packet_nibble 27 = .ok (.if_icmp .gt 15, 3) := by decide +kernel
theorem d_Packet_nibble_30 : decode b_Packet_nibble 30 = .ok (.aload_n 0, 1) := by decide +kernel
theorem d_Packet_nibble_31 : decode b_Packet_nibble 31 = .ok (.getfield 15, 3) := by decide +kernel
theorem d_Packet_nibble_34 : decode b_Packet_nibble 34 = .ok (.iconst 2, 1) := by decide +kernel
theorem d_Packet_nibble_35 : decode b_Packet_nibble 35 = .ok (.dup2, 1) := by decide +kernel
theorem d_Packet_nibble_36 : decode b_Packet_nibble 36 = .ok (.iaload, 1) := by decide +kernel
theorem d_Packet_nibble_37 : decode b_Packet_nibble 37 = .ok (.iload_n 3, 1) := by decide +kernel
theorem d_Packet_nibble_38 : decode b_Packet_nibble 38 = .ok (.iadd, 1) := by decide +kernel
theorem d_Packet_nibble_39 : decode b_Packet_nibble 39 = .ok (.iastore, 1) := by decide +kernel
theorem d_Packet_nibble_40 : decode b_Packet_nibble 40 = .ok (.iload_n 2, 1) := by decide +kernel
theorem d_Packet_nibble_41 : decode b_Packet_nibble 41 = .ok (.ireturn, 1) := by decide +kernel
theorem d_Packet_nibble_42 : decode b_Packet_nibble 42 = .ok (.iinc 2 1, 3) := by decide +kernel
theorem d_Packet_nibble_45 : decode b_Packet_nibble 45 = .ok (.goto (-43), 3) := by decide +kernel
theorem d_Packet_nibble_48 : decode b_Packet_nibble 48 = .ok (.aload_n 0, 1) := by decide +kernel
theorem d_Packet_nibble_49 : decode b_Packet_nibble 49 = .ok (.getfield 15, 3) := by decide +kernel
theorem d_Packet_nibble_52 : decode b_Packet_nibble 52 = .ok (.iconst 3, 1) := by decide +kernel
theorem d_Packet_nibble_53 : decode b_Packet_nibble 53 = .ok (.dup2, 1) := by decide +kernel
theorem d_Packet_nibble_54 : decode b_Packet_nibble 54 = .ok (.iaload, 1) := by decide +kernel
theorem d_Packet_nibble_55 : decode b_Packet_nibble 55 = .ok (.iconst 1, 1) := by decide +kernel
theorem d_Packet_nibble_56 : decode b_Packet_nibble 56 = .ok (.iadd, 1) := by decide +kernel
theorem d_Packet_nibble_57 : decode b_Packet_nibble 57 = .ok (.iastore, 1) := by decide +kernel
theorem d_Packet_nibble_58 : decode b_Packet_nibble 58 = .ok (.iconst (-1), 1) := by decide +kernel
theorem d_Packet_nibble_59 : decode b_Packet_nibble 59 = .ok (.ireturn, 1) := by decide +kernel
theorem d_Packet_byteAt_0 : decode b_Packet_byteAt 0 = .ok (.iload_n 1, 1) := by decide +kernel
theorem d_Packet_byteAt_1 : decode b_Packet_byteAt 1 = .ok (.ifCond .lt 9, 3) := by decide +kernel
theorem d_Packet_byteAt_4 : decode b_Packet_byteAt 4 = .ok (.iload_n 1, 1) := by decide +kernel
theorem d_Packet_byteAt_5 : decode b_Packet_byteAt 5 = .ok (.bipush 22, 2) := by decide +kernel
theorem d_Packet_byteAt_7 : decode b_Packet_byteAt 7 = .ok (.if_icmp .lt 7, 3) := by decide +kernel
theorem d_Packet_byteAt_10 : decode b_Packet_byteAt 10 = .ok (.iconst 0, 1) := by decide +kernel
theorem d_Packet_byteAt_11 : decode b_Packet_byteAt 11 = .ok (.goto 9, 3) := by decide +kernel
theorem d_Packet_byteAt_14 : decode b_Packet_byteAt 14 = .ok (.aload_n 0, 1) := by decide +kernel
theorem d_Packet_byteAt_15 : decode b_Packet_byteAt 15 = .ok (.getfield 9, 3) := by decide +kernel
theorem d_Packet_byteAt_18 : decode b_Packet_byteAt 18 = .ok (.iload_n 1, 1) := by decide +kernel
theorem d_Packet_byteAt_19 : decode b_Packet_byteAt 19 = .ok (.iaload, 1) := by decide +kernel
theorem d_Packet_byteAt_20 : decode b_Packet_byteAt 20 = .ok (.ireturn, 1) := by decide +kernel
theorem d_JInt_bitCount_0 : decode b_JInt_bitCount 0 = .ok (.iload_n 0, 1) := by decide +kernel
theorem d_JInt_bitCount_1 : decode b_JInt_bitCount 1 = .ok (.iload_n 0, 1) := by decide +kernel
theorem d_JInt_bitCount_2 : decode b_JInt_bitCount 2 = .ok (.iconst 1, 1) := by decide +kernel
theorem d_JInt_bitCount_3 : decode b_JInt_bitCount 3 = .ok (.iushr, 1) := by decide +kernel
theorem d_JInt_bitCount_4 : decode b_JInt_bitCount 4 = .ok (.ldc_w 265, 3) := by decide +kernel
theorem d_JInt_bitCount_7 : decode b_JInt_bitCount 7 = .ok (.iand, 1) := by decide +kernel
theorem d_JInt_bitCount_8 : decode b_JInt_bitCount 8 = .ok (.isub, 1) := by decide +kernel
theorem d_JInt_bitCount_9 : decode b_JInt_bitCount 9 = .ok (.istore_n 0, 1) := by decide +kernel
theorem d_JInt_bitCount_10 : decode b_JInt_bitCount 10 = .ok (.iload_n 0, 1) := by decide +kernel
theorem d_JInt_bitCount_11 : decode b_JInt_bitCount 11 = .ok (.ldc_w 266, 3) := by decide +kernel
theorem d_JInt_bitCount_14 : decode b_JInt_bitCount 14 = .ok (.iand, 1) := by decide +kernel
theorem d_JInt_bitCount_15 : decode b_JInt_bitCount 15 = .ok (.iload_n 0, 1) := by decide +kernel
theorem d_JInt_bitCount_16 : decode b_JInt_bitCount 16 = .ok (.iconst 2, 1) := by decide +kernel
theorem d_JInt_bitCount_17 : decode b_JInt_bitCount 17 = .ok (.iushr, 1) := by decide +kernel
theorem d_JInt_bitCount_18 : decode b_JInt_bitCount 18 = .ok (.ldc_w 266, 3) := by decide +kernel
theorem d_JInt_bitCount_21 : decode b_JInt_bitCount 21 = .ok (.iand, 1) := by decide +kernel
theorem d_JInt_bitCount_22 : decode b_JInt_bitCount 22 = .ok (.iadd, 1) := by decide +kernel
theorem d_JInt_bitCount_23 : decode b_JInt_bitCount 23 = .ok (.istore_n 0, 1) := by decide +kernel
theorem d_JInt_bitCount_24 : decode b_JInt_bitCount 24 = .ok (.iload_n 0, 1) := by decide +kernel
theorem d_JInt_bitCount_25 : decode b_JInt_bitCount 25 = .ok (.iload_n 0, 1) := by decide +kernel
theorem d_JInt_bitCount_26 : decode b_JInt_bitCount 26 = .ok (.iconst 4, 1) := by decide +kernel
theorem d_JInt_bitCount_27 : decode b_JInt_bitCount 27 = .ok (.iushr, 1) := by decide +kernel
theorem d_JInt_bitCount_28 : decode b_JInt_bitCount 28 = .ok (.iadd, 1) := by decide +kernel
theorem d_JInt_bitCount_29 : decode b_JInt_bitCount 29 = .ok (.ldc_w 267, 3) := by decide +kernel
theorem d_JInt_bitCount_32 : decode b_JInt_bitCount 32 = .ok (.iand, 1) := by decide +kernel
theorem d_JInt_bitCount_33 : decode b_JInt_bitCount 33 = .ok (.istore_n 0, 1) := by decide +kernel
theorem d_JInt_bitCount_34 : decode b_JInt_bitCount 34 = .ok (.iload_n 0, 1) := by decide +kernel
theorem d_JInt_bitCount_35 : decode b_JInt_bitCount 35 = .ok (.iload_n 0, 1) := by decide +kernel
theorem d_JInt_bitCount_36 : decode b_JInt_bitCount 36 = .ok (.bipush 8, 2) := by decide +kernel
theorem d_JInt_bitCount_38 : decode b_JInt_bitCount 38 = .ok (.iushr, 1) := by decide +kernel
theorem d_JInt_bitCount_39 : decode b_JInt_bitCount 39 = .ok (.iadd, 1) := by decide +kernel
theorem d_JInt_bitCount_40 : decode b_JInt_bitCount 40 = .ok (.istore_n 0, 1) := by decide +kernel
theorem d_JInt_bitCount_41 : decode b_JInt_bitCount 41 = .ok (.iload_n 0, 1) := by decide +kernel
theorem d_JInt_bitCount_42 : decode b_JInt_bitCount 42 = .ok (.iload_n 0, 1) := by decide +kernel
theorem d_JInt_bitCount_43 : decode b_JInt_bitCount 43 = .ok (.bipush 16, 2) := by decide +kernel
theorem d_JInt_bitCount_45 : decode b_JInt_bitCount 45 = .ok (.iushr, 1) := by decide +kernel
theorem d_JInt_bitCount_46 : decode b_JInt_bitCount 46 = .ok (.iadd, 1) := by decide +kernel
theorem d_JInt_bitCount_47 : decode b_JInt_bitCount 47 = .ok (.istore_n 0, 1) := by decide +kernel
theorem d_JInt_bitCount_48 : decode b_JInt_bitCount 48 = .ok (.iload_n 0, 1) := by decide +kernel
theorem d_JInt_bitCount_49 : decode b_JInt_bitCount 49 = .ok (.bipush 63, 2) := by decide +kernel
theorem d_JInt_bitCount_51 : decode b_JInt_bitCount 51 = .ok (.iand, 1) := by decide +kernel
theorem d_JInt_bitCount_52 : decode b_JInt_bitCount 52 = .ok (.ireturn, 1) := by decide +kernel
theorem d_Tuner_takeHeader_0 : decode b_Tuner_takeHeader 0 = .ok (.aload_n 0, 1) := by decide +kernel
theorem d_Tuner_takeHeader_1 : decode b_Tuner_takeHeader 1 = .ok (.invokevirtual 75, 3) := by decide +kernel
theorem d_Tuner_takeHeader_4 : decode b_Tuner_takeHeader 4 = .ok (.ifCond .ne 14, 3) := by decide +kernel
theorem d_Tuner_takeHeader_7 : decode b_Tuner_takeHeader 7 = .ok (.aload_n 0, 1) := by decide +kernel
theorem d_Tuner_takeHeader_8 : decode b_Tuner_takeHeader 8 = .ok (.getfield 36, 3) := by decide +kernel
theorem d_Tuner_takeHeader_11 : decode b_Tuner_takeHeader 11 = .ok (.iconst 1, 1) := by decide +kernel
theorem d_Tuner_takeHeader_12 : decode b_Tuner_takeHeader 12 = .ok (.dup2, 1) := by decide +kernel
theorem d_Tuner_takeHeader_13 : decode b_Tuner_takeHeader 13 = .ok (.iaload, 1) := by decide +kernel
theorem d_Tuner_takeHeader_14 : decode b_Tuner_takeHeader 14 = .ok (.iconst 1, 1) := by decide +kernel
theorem d_Tuner_takeHeader_15 : decode b_Tuner_takeHeader 15 = .ok (.iadd, 1) := by decide +kernel
theorem d_Tuner_takeHeader_16 : decode b_Tuner_takeHeader 16 = .ok (.iastore, 1) := by decide +kernel
theorem d_Tuner_takeHeader_17 : decode b_Tuner_takeHeader 17 = .ok (.return_, 1) := by decide +kernel
theorem d_Tuner_takeHeader_18 : decode b_Tuner_takeHeader 18 = .ok (.aload_n 0, 1) := by decide +kernel
theorem d_Tuner_takeHeader_19 : decode b_Tuner_takeHeader 19 = .ok (.getfield 21, 3) := by decide +kernel
theorem d_Tuner_takeHeader_22 : decode b_Tuner_takeHeader 22 = .ok (.iconst 4, 1) := by decide +kernel
theorem d_Tuner_takeHeader_23 : decode b_Tuner_takeHeader 23 = .ok (.iaload, 1) := by decide +kernel
theorem d_Tuner_takeHeader_24 : decode b_Tuner_takeHeader 24 = .ok (.istore_n 2, 1) := by decide +kernel
theorem d_Tuner_takeHeader_25 : decode b_Tuner_takeHeader 25 = .ok (.aload_n 0, 1) := by decide +kernel
theorem d_Tuner_takeHeader_26 : decode b_Tuner_takeHeader 26 = .ok (.iload_n 1, 1) := by decide +kernel
theorem d_Tuner_takeHeader_27 : decode b_Tuner_takeHeader 27 = .ok (.iload_n 2, 1) := by decide +kernel
theorem d_Tuner_takeHeader_28 : decode b_Tuner_takeHeader 28 = .ok (.iconst 2, 1) := by decide +kernel
theorem d_Tuner_takeHeader_29 : decode b_Tuner_takeHeader 29 = .ok (.irem, 1) := by decide +kernel
theorem d_Tuner_takeHeader_30 : decode b_Tuner_takeHeader 30 = .ok (.iconst 1, 1) := by decide +kernel
theorem d_Tuner_takeHeader_31 : decode b_Tuner_takeHeader 31 = .ok (.if_icmp .ne 7, 3) := by decide +kernel
theorem d_Tuner_takeHeader_34 : decode b_Tuner_takeHeader 34 = .ok (.iconst 1, 1) := by decide +kernel
theorem d_Tuner_takeHeader_35 : decode b_Tuner_takeHeader 35 = .ok (.goto 4, 3) := by decide +kernel
theorem d_Tuner_takeHeader_38 : decode b_Tuner_takeHeader 38 = .ok (.iconst 0, 1) := by decide +kernel
theorem d_Tuner_takeHeader_39 : decode b_Tuner_takeHeader 39 = .ok (.invokevirtual 79, 3) := by decide +kernel
theorem d_Tuner_takeHeader_42 : decode b_Tuner_takeHeader 42 = .ok (.aload_n 0, 1) := by decide +kernel
theorem d_Tuner_takeHeader_43 : decode b_Tuner_takeHeader 43 = .ok (.getfield 21, 3) := by decide +kernel
theorem d_Tuner_takeHeader_46 : decode b_Tuner_takeHeader 46 = .ok (.iconst 0, 1) := by decide +kernel
theorem d_Tuner_takeHeader_47 : decode b_Tuner_takeHeader 47 = .ok (.iaload, 1) := by decide +kernel
theorem d_Tuner_takeHeader_48 : decode b_Tuner_takeHeader 48 = .ok (.bipush 15, 2) := by decide +kernel
theorem d_Tuner_takeHeader_50 : decode b_Tuner_takeHeader 50 = .ok (.if_icmp .ne 14, 3) := by decide +kernel
theorem d_Tuner_takeHeader_53 : decode b_Tuner_takeHeader 53 = .ok (.aload_n 0, 1) := by decide +kernel
theorem d_Tuner_takeHeader_54 : decode b_Tuner_takeHeader 54 = .ok (.getfield 21, 3) := by decide +kernel
theorem d_Tuner_takeHeader_57 : decode b_Tuner_takeHeader 57 = .ok (.iconst 1, 1) := by decide +kernel
theorem d_Tuner_takeHeader_58 : decode b_Tuner_takeHeader 58 = .ok (.iaload, 1) := by decide +kernel
theorem d_Tuner_takeHeader_59 : decode b_Tuner_takeHeader 59 = .ok (.bipush 15, 2) := by decide +kernel
theorem d_Tuner_takeHeader_61 : decode b_Tuner_takeHeader 61 = .ok (.if_icmp .eq 8, 3) := by decide +kernel
theorem d_Tuner_takeHeader_64 : decode b_Tuner_takeHeader 64 = .ok (.aload_n 0, 1) := by decide +kernel
theorem d_Tuner_takeHeader_65 : decode b_Tuner_takeHeader 65 = .ok (.iload_n 1, 1) := by decide +kernel
theorem d_Tuner_takeHeader_66 : decode b_Tuner_takeHeader 66 = .ok (.invokevirtual 83, 3) := by decide +kernel
theorem d_Tuner_takeHeader_69 : decode b_Tuner_takeHeader 69 = .ok (.aload_n 0, 1) := by decide +kernel
theorem d_Tuner_takeHeader_70 : decode b_Tuner_takeHeader 70 = .ok (.aload_n 0, 1) := by decide +kernel
theorem d_Tuner_takeHeader_71 : decode b_Tuner_takeHeader 71 = .ok (.getfield 11, 3) := by decide +kernel
theorem d_Tuner_takeHeader_74 : decode b_Tuner_takeHeader 74 = .ok (.iload_n 1, 1) := by decide +kernel
theorem d_Tuner_takeHeader_75 : decode b_Tuner_takeHeader 75 = .ok (.aaload, 1) := by decide +kernel
theorem d_Tuner_takeHeader_76 : decode b_Tuner_takeHeader 76 = .ok (.iload_n 2, 1) := by decide +kernel
theorem d_Tuner_takeHeader_77 : decode b_Tuner_takeHeader 77 = .ok (.iconst 2, 1) := by decide +kernel
theorem d_Tuner_takeHeader_78 : decode b_Tuner_takeHeader 78 = .ok (.idiv, 1) := by decide +kernel
theorem d_Tuner_takeHeader_79 : decode b_Tuner_takeHeader 79 = .ok (.iconst 2, 1) := by decide +kernel
theorem d_Tuner_takeHeader_80 : decode b_Tuner_takeHeader 80 = .ok (.irem, 1) := by decide +kernel
theorem d_Tuner_takeHeader_81 : decode b_Tuner_takeHeader 81 = .ok (.ifCond .ne 7, 3) := by decide +kernel
theorem d_Tuner_takeHeader_84 : decode b_Tuner_takeHeader 84 = .ok (.iconst 1, 1) := by decide +kernel
theorem d_Tuner_takeHeader_85 : decode b_Tuner_takeHeader 85 = .ok (.goto 4, 3) := by decide +kernel
theorem d_Tuner_takeHeader_88 : decode b_Tuner_takeHeader 88 = .ok (.iconst 0, 1) := by decide +kernel
theorem d_Tuner_takeHeader_89 : decode b_Tuner_takeHeader 89 = .ok (.invokevirtual 86, 3) := by decide +kernel
theorem d_Tuner_takeHeader_92 : decode b_Tuner_takeHeader 92 = .ok (.return_, 1) := by decide +kernel
theorem d_Tuner_readHeader_0 : decode b_Tuner_readHeader 0 = .ok (.iconst 0, 1) := by decide +kernel
theorem d_Tuner_readHeader_1 : decode b_Tuner_readHeader 1 = .ok (.istore_n 1, 1) := by decide +kernel
theorem d_Tuner_readHeader_2 : decode b_Tuner_readHeader 2 = .ok (.iload_n 1, 1) := by decide +kernel
theorem d_Tuner_readHeader_3 : decode b_Tuner_readHeader 3 = .ok (.aload_n 0, 1) := by decide +kernel
theorem d_Tuner_readHeader_4 : decode b_Tuner_readHeader 4 = .ok (.getfield 21, 3) := by decide +kernel
theorem d_Tuner_readHeader_7 : decode b_Tuner_readHeader 7 = .ok (.arraylength, 1) := by decide +kernel
theorem d_Tuner_readHeader_8 : decode b_Tuner_readHeader 8 = .ok (.if_icmp .ge 37, 3) := by decide +kernel
theorem d_Tuner_readHeader_11 : decode b_Tuner_readHeader 11 = .ok (.aload_n 0, 1) := by decide +kernel
theorem d_Tuner_readHeader_12 : decode b_Tuner_readHeader 12 = .ok (.getfield 21, 3) := by decide +kernel
theorem d_Tuner_readHeader_15 : decode b_Tuner_readHeader 15 = .ok (.iload_n 1, 1) := by decide +kernel
theorem d_Tuner_readHeader_16 : decode b_Tuner_readHeader 16 = .ok (.aload_n 0, 1) := by decide +kernel
theorem d_Tuner_readHeader_17 : decode b_Tuner_readHeader 17 = .ok (.getfield 24, 3) := by decide +kernel
theorem d_Tuner_readHeader_20 : decode b_Tuner_readHeader 20 = .ok (.iconst 2, 1) := by decide +kernel
theorem d_Tuner_readHeader_21 : decode b_Tuner_readHeader 21 = .ok (.iload_n 1, 1) := by decide +kernel
theorem d_Tuner_readHeader_22 : decode b_Tuner_readHeader 22 = .ok (.iadd, 1) := by decide +kernel
theorem d_Tuner_readHeader_23 : decode b_Tuner_readHeader 23 = .ok (.invokevirtual 46, 3) := by decide +kernel
theorem d_Tuner_readHeader_26 : decode b_Tuner_readHeader 26 = .ok (.iastore, 1) := by decide +kernel
theorem d_Tuner_readHeader_27 : decode b_Tuner_readHeader 27 = .ok (.aload_n 0, 1) := by decide +kernel
theorem d_Tuner_readHeader_28 : decode b_Tuner_readHeader 28 = .ok (.getfield 21, 3) := by decide +kernel
theorem d_Tuner_readHeader_31 : decode b_Tuner_readHeader 31 = .ok (.iload_n 1, 1) := by decide +kernel
theorem d_Tuner_readHeader_32 : decode b_Tuner_readHeader 32 = .ok (.iaload, 1) := by decide +kernel
theorem d_Tuner_readHeader_33 : decode b_Tuner_readHeader 33 = .ok (.iconst (-1), 1) := by decide +kernel
theorem d_Tuner_readHeader_34 : decode b_Tuner_readHeader 34 = .ok (.if_icmp .ne 5, 3) := by decide +kernel
theorem d_Tuner_readHeader_37 : decode b_Tuner_readHeader 37 = .ok (.iconst 0, 1) := by decide +kernel
theorem d_Tuner_readHeader_38 : decode b_Tuner_readHeader 38 = .ok (.ireturn, 1) := by decide +kernel
theorem d_Tuner_readHeader_39 : decode b_Tuner_readHeader 39 = .ok (.iinc 1 1, 3) := by decide +kernel
theorem d_Tuner_readHeader_42 : decode b_Tuner_readHeader 42 = .ok (.goto (-40), 3) := by decide +kernel
theorem d_Tuner_readHeader_45 : decode b_Tuner_readHeader 45 = .ok (.iconst 1, 1) := by decide +kernel
theorem d_Tuner_readHeader_46 : decode b_Tuner_readHeader 46 = .ok (.ireturn, 1) := by decide +kernel
theorem d_Tuner_completeComing_0 : decode b_Tuner_completeComing 0 = .ok (.iconst 0, 1) := by decide +kernel
theorem d_Tuner_completeComing_1 : decode b_Tuner_completeComing 1 = .ok (.istore_n 3, 1) := by decide +kernel
theorem d_Tuner_completeComing_2 : decode b_Tuner_completeComing 2 = .ok (.iload_n 3, 1) := by decide +kernel
theorem d_Tuner_completeComing_3 : decode b_Tuner_completeComing 3 = .ok (.bipush 8, 2) := by decide +kernel
theorem d_Tuner_completeComing_5 : decode b_Tuner_completeComing 5 = .ok (.if_icmp .ge 50, 3) := by decide +kernel
theorem d_Tuner_completeComing_8 : decode b_Tuner_completeComing 8 = .ok (.iload_n 2, 1) := by decide +kernel
theorem d_Tuner_completeComing_9 : decode b_Tuner_completeComing 9 = .ok (.ifCond .ne 8, 3) := by decide +kernel
theorem d_Tuner_completeComing_12 : decode b_Tuner_completeComing 12 = .ok (.iload_n 3, 1) := by decide +kernel
theorem d_Tuner_completeComing_13 : decode b_Tuner_completeComing 13 = .ok (.iload_n 1, 1) := by decide +kernel
theorem d_Tuner_completeComing_14 : decode b_Tuner_completeComing 14 = .ok (.if_icmp .ne 35, 3) := by decide +kernel
theorem d_Tuner_completeComing_17 : decode b_Tuner_completeComing 17 = .ok (.aload_n 0, 1) := by decide +kernel
theorem d_Tuner_completeComing_18 : decode b_Tuner_completeComing 18 = .ok (.getfield 11, 3) := by decide +kernel
theorem d_Tuner_completeComing_21 : decode b_Tuner_completeComing 21 = .ok (.iload_n 3, 1) := by decide +kernel
theorem d_Tuner_completeComing_22 : decode b_Tuner_completeComing 22 = .ok (.aaload, 1) := by decide +kernel
theorem d_Tuner_completeComing_23 : decode b_Tuner_completeComing 23 = .ok (.getfield 56, 3) := by decide +kernel
theorem d_Tuner_completeComing_26 : decode b_Tuner_completeComing 26 = .ok (.ifCond .eq 23, 3) := by decide +kernel
theorem d_Tuner_completeComing_29 : decode b_Tuner_completeComing 29 = .ok (.aload_n 0, 1) := by decide +kernel
theorem d_Tuner_completeComing_30 : decode b_Tuner_completeComing 30 = .ok (.getfield 28, 3) := by decide +kernel
theorem d_Tuner_completeComing_33 : decode b_Tuner_completeComing 33 = .ok (.aload_n 0, 1) := by decide +kernel
theorem d_Tuner_completeComing_34 : decode b_Tuner_completeComing 34 = .ok (.getfield 11, 3) := by decide +kernel
theorem d_Tuner_completeComing_37 : decode b_Tuner_completeComing 37 = .ok (.iload_n 3, 1) := by decide +kernel
theorem d_Tuner_completeComing_38 : decode b_Tuner_completeComing 38 = .ok (.aaload, 1) := by decide +kernel
theorem d_Tuner_completeComing_39 : decode b_Tuner_completeComing 39 = .ok (.aload_n 0, 1) := by decide +kernel
theorem d_Tuner_completeComing_40 : decode b_Tuner_completeComing 40 = .ok (.getfield 32, 3) := by decide +kernel
theorem d_Tuner_completeComing_43 : decode b_Tuner_completeComing 43 = .ok (.getfield 90, 3) := by decide +kernel
theorem d_Tuner_completeComing_46 : decode b_Tuner_completeComing 46 = .ok (.invokevirtual 96, 3) := by decide +kernel
theorem d_Tuner_completeComing_49 : decode b_Tuner_completeComing 49 = .ok (.iinc 3 1, 3) := by decide +kernel
theorem d_Tuner_completeComing_52 : decode b_Tuner_completeComing 52 = .ok (.goto (-50), 3) := by decide +kernel
theorem d_Tuner_completeComing_55 : decode b_Tuner_completeComing 55 = .ok (.return_, 1) := by decide +kernel
theorem d_Shelf_complete_0 : decode b_Shelf_complete 0 = .ok (.aload_n 0, 1) := by decide +kernel
theorem d_Shelf_complete_1 : decode b_Shelf_complete 1 = .ok (.aload_n 1, 1) := by decide +kernel
theorem d_Shelf_complete_2 : decode b_Shelf_complete 2 = .ok (.getfield 26, 3) := by decide +kernel
theorem d_Shelf_complete_5 : decode b_Shelf_complete 5 = .ok (.iload_n 2, 1) := by decide +kernel
theorem d_Shelf_complete_6 : decode b_Shelf_complete 6 = .ok (.invokevirtual 30, 3) := by decide +kernel
theorem d_Shelf_complete_9 : decode b_Shelf_complete 9 = .ok (.astore_n 3, 1) := by decide +kernel
theorem d_Shelf_complete_10 : decode b_Shelf_complete 10 = .ok (.aload_n 3, 1) := by decide +kernel
theorem d_Shelf_complete_11 : decode b_Shelf_complete 11 = .ok (.aload_n 1, 1) := by decide +kernel
theorem d_Shelf_complete_12 : decode b_Shelf_complete 12 = .ok (.invokevirtual 34, 3) := by decide +kernel
theorem d_Shelf_complete_15 : decode b_Shelf_complete 15 = .ok (.aload_n 3, 1) := by decide +kernel
theorem d_Shelf_complete_16 : decode b_Shelf_complete 16 = .ok (.aload_n 0, 1) := by decide +kernel
theorem d_Shelf_complete_17 : decode b_Shelf_complete 17 = .ok (.getfield 9, 3) := by decide +kernel
theorem d_Shelf_complete_20 : decode b_Shelf_complete 20 = .ok (.iconst 5, 1) := by decide +kernel
theorem d_Shelf_complete_21 : decode b_Shelf_complete 21 = .ok (.iaload, 1) := by decide +kernel
theorem d_Shelf_complete_22 : decode b_Shelf_complete 22 = .ok (.putfield 38, 3) := by decide +kernel
theorem d_Shelf_complete_25 : decode b_Shelf_complete 25 = .ok (.aload_n 0, 1) := by decide +kernel
theorem d_Shelf_complete_26 : decode b_Shelf_complete 26 = .ok (.getfield 9, 3) := by decide +kernel
theorem d_Shelf_complete_29 : decode b_Shelf_complete 29 = .ok (.iconst 5, 1) := by decide +kernel
theorem d_Shelf_complete_30 : decode b_Shelf_complete 30 = .ok (.dup2, 1) := by decide +kernel
theorem d_Shelf_complete_31 : decode b_Shelf_complete 31 = .ok (.iaload, 1) := by decide +kernel
theorem d_Shelf_complete_32 : decode b_Shelf_complete 32 = .ok (.iconst 1, 1) := by decide +kernel
theorem d_Shelf_complete_33 : decode b_Shelf_complete 33 = .ok (.iadd, 1) := by decide +kernel
theorem d_Shelf_complete_34 : decode b_Shelf_complete 34 = .ok (.iastore, 1) := by decide +kernel
theorem d_Shelf_complete_35 : decode b_Shelf_complete 35 = .ok (.aload_n 1, 1) := by decide +kernel
theorem d_Shelf_complete_36 : decode b_Shelf_complete 36 = .ok (.iconst 0, 1) := by decide +kernel
theorem d_Shelf_complete_37 : decode b_Shelf_complete 37 = .ok (.putfield 22, 3) := by decide +kernel
theorem d_Shelf_complete_40 : decode b_Shelf_complete 40 = .ok (.return_, 1) := by decide +kernel
theorem d_Shelf_placeFor_0 : decode b_Shelf_placeFor 0 = .ok (.aload_n 0, 1) := by decide +kernel
theorem d_Shelf_placeFor_1 : decode b_Shelf_placeFor 1 = .ok (.iload_n 1, 1) := by decide +kernel
theorem d_Shelf_placeFor_2 : decode b_Shelf_placeFor 2 = .ok (.invokevirtual 41, 3) := by decide +kernel
theorem d_Shelf_placeFor_5 : decode b_Shelf_placeFor 5 = .ok (.astore_n 3, 1) := by decide +kernel
theorem d_Shelf_placeFor_6 : decode b_Shelf_placeFor 6 = .ok (.aload_n 3, 1) := by decide +kernel
theorem d_Shelf_placeFor_7 : decode b_Shelf_placeFor 7 = .ok (.ifnull 5, 3) := by decide +kernel
theorem d_Shelf_placeFor_10 : decode b_Shelf_placeFor 10 = .ok (.aload_n 3, 1) := by decide +kernel
theorem d_Shelf_placeFor_11 : decode b_Shelf_placeFor 11 = .ok (.areturn, 1) := by decide +kernel
theorem d_Shelf_placeFor_12 : decode b_Shelf_placeFor 12 = .ok (.iconst 0, 1) := by decide +kernel
theorem d_Shelf_placeFor_13 : decode b_Shelf_placeFor 13 = .ok (.istore 4, 2) := by decide +kernel
theorem d_Shelf_placeFor_15 : decode b_Shelf_placeFor 15 = .ok (.iload 4, 2) := by decide +kernel
theorem d_Shelf_placeFor_17 : decode b_Shelf_placeFor 17 = .ok (.aload_n 0, 1) := by decide +kernel
theorem d_Shelf_placeFor_18 : decode b_Shelf_placeFor 18 = .ok (.getfield 17, 3) := by decide +kernel
theorem d_Shelf_placeFor_21 : decode b_Shelf_placeFor 21 = .ok (.arraylength, 1) := by decide +kernel
theorem d_Shelf_placeFor_22 : decode b_Shelf_placeFor 22 = .ok (.if_icmp .ge 30, 3) := by decide +kernel
theorem d_Shelf_placeFor_25 : decode b_Shelf_placeFor 25 = .ok (.aload_n 0, 1) := by decide +kernel
theorem d_Shelf_placeFor_26 : decode b_Shelf_placeFor 26 = .ok (.getfield 17, 3) := by decide +kernel
theorem d_Shelf_placeFor_29 : decode b_Shelf_placeFor 29 = .ok (.iload 4, 2) := by decide +kernel
theorem d_Shelf_placeFor_31 : decode b_Shelf_placeFor 31 = .ok (.aaload, 1) := by decide +kernel
theorem d_Shelf_placeFor_32 : decode b_Shelf_placeFor 32 = .ok (.getfield 22, 3) := by decide +kernel
theorem d_Shelf_placeFor_35 : decode b_Shelf_placeFor 35 = .ok (.ifCond .ne 11, 3) := by decide +kernel
theorem d_Shelf_placeFor_38 : decode b_Shelf_placeFor 38 = .ok (.aload_n 0, 1) := by decide +kernel
theorem d_Shelf_placeFor_39 : decode b_Shelf_placeFor 39 = .ok (.getfield 17, 3) := by decide +kernel
theorem d_Shelf_placeFor_42 : decode b_Shelf_placeFor 42 = .ok (.iload 4, 2) := by decide +kernel
theorem d_Shelf_placeFor_44 : decode b_Shelf_placeFor 44 = .ok (.aaload, 1) := by decide +kernel
theorem d_Shelf_placeFor_45 : decode b_Shelf_placeFor 45 = .ok (.areturn, 1) := by decide +kernel
theorem d_Shelf_placeFor_46 : decode b_Shelf_placeFor 46 = .ok (.iinc 4 1, 3) := by decide +kernel
theorem d_Shelf_placeFor_49 : decode b_Shelf_placeFor 49 = .ok (.goto (-34), 3) := by decide +kernel
theorem d_Shelf_placeFor_52 : decode b_Shelf_placeFor 52 = .ok (.aload_n 0, 1) := by decide +kernel
theorem d_Shelf_placeFor_53 : decode b_Shelf_placeFor 53 = .ok (.iload_n 2, 1) := by decide +kernel
theorem d_Shelf_placeFor_54 : decode b_Shelf_placeFor 54 = .ok (.invokevirtual 45, 3) := by decide +kernel
theorem d_Shelf_placeFor_57 : decode b_Shelf_placeFor 57 = .ok (.areturn, 1) := by decide +kernel
end
section
theorem d_Shelf_find_0 : decode b_Shelf_find 0 = .ok (.iconst 0, 1) := by decide +kernel
theorem d_Shelf_find_1 : decode b_Shelf_find 1 = .ok (.istore_n 2, 1) := by decide +kernel
theorem d_Shelf_find_2 : decode b_Shelf_find 2 = .ok (.iload_n 2, 1) := by decide +kernel
theorem d_Shelf_find_3 : decode b_Shelf_find 3 = .ok (.aload_n 0, 1) := by decide +kernel
theorem d_Shelf_find_4 : decode b_Shelf_find 4 = .ok (.getfield 17, 3) := by decide +kernel
theorem d_Shelf_find_7 : decode b_Shelf_find 7 = .ok (.arraylength, 1) := by decide +kernel
theorem d_Shelf_find_8 : decode b_Shelf_find 8 = .ok (.if_icmp .ge 41, 3) := by decide +kernel
theorem d_Shelf_find_11 : decode b_Shelf_find 11 = .ok (.aload_n 0, 1) := by decide +kernel
theorem d_Shelf_find_12 : decode b_Shelf_find 12 = .ok (.getfield 17, 3) := by decide +kernel
theorem d_Shelf_find_15 : decode b_Shelf_find 15 = .ok (.iload_n 2, 1) := by decide +kernel
theorem d_Shelf_find_16 : decode b_Shelf_find 16 = .ok (.aaload, 1) := by decide +kernel
theorem d_Shelf_find_17 : decode b_Shelf_find 17 = .ok (.getfield 22, 3) := by decide +kernel
theorem d_Shelf_find_20 : decode b_Shelf_find 20 = .ok (.ifCond .eq 23, 3) := by decide +kernel
theorem d_Shelf_find_23 : decode b_Shelf_find 23 = .ok (.aload_n 0, 1) := by decide +kernel
theorem d_Shelf_find_24 : decode b_Shelf_find 24 = .ok (.getfield 17, 3) := by decide +kernel
theorem d_Shelf_find_27 : decode b_Shelf_find 27 = .ok (.iload_n 2, 1) := by decide +kernel
theorem d_Shelf_find_28 : decode b_Shelf_find 28 = .ok (.aaload, 1) := by decide +kernel
theorem d_Shelf_find_29 : decode b_Shelf_find 29 = .ok (.getfield 26, 3) := by decide +kernel
theorem d_Shelf_find_32 : decode b_Shelf_find 32 = .ok (.iload_n 1, 1) := by decide +kernel
theorem d_Shelf_find_33 : decode b_Shelf_find 33 = .ok (.if_icmp .ne 10, 3) := by decide +kernel
theorem d_Shelf_find_36 : decode b_Shelf_find 36 = .ok (.aload_n 0, 1) := by decide +kernel
theorem d_Shelf_find_37 : decode b_Shelf_find 37 = .ok (.getfield 17, 3) := by decide +kernel
theorem d_Shelf_find_40 : decode b_Shelf_find 40 = .ok (.iload_n 2, 1) := by decide +kernel
theorem d_Shelf_find_41 : decode b_Shelf_find 41 = .ok (.aaload, 1) := by decide +kernel
theorem d_Shelf_find_42 : decode b_Shelf_find 42 = .ok (.areturn, 1) := by decide +kernel
theorem d_Shelf_find_43 : decode b_Shelf_find 43 = .ok (.iinc 2 1, 3) := by decide +kernel
theorem d_Shelf_find_46 : decode b_Shelf_find 46 = .ok (.goto (-44), 3) := by decide +kernel
theorem d_Shelf_find_49 : decode b_Shelf_find 49 = .ok (.aconst_null, 1) := by decide +kernel
theorem d_Shelf_find_50 : decode b_Shelf_find 50 = .ok (.areturn, 1) := by decide +kernel
theorem d_Shelf_oldest_0 : decode b_Shelf_oldest 0 = .ok (.aload_n 0, 1) := by decide +kernel
theorem d_Shelf_oldest_1 : decode b_Shelf_oldest 1 = .ok (.getfield 17, 3) := by decide +kernel
theorem d_Shelf_oldest_4 : decode b_Shelf_oldest 4 = .ok (.iconst 0, 1) := by decide +kernel
theorem d_Shelf_oldest_5 : decode b_Shelf_oldest 5 = .ok (.aaload, 1) := by decide +kernel
theorem d_Shelf_oldest_6 : decode b_Shelf_oldest 6 = .ok (.astore_n 2, 1) := by decide +kernel
theorem d_Shelf_oldest_7 : decode b_Shelf_oldest 7 = .ok (.iconst 1, 1) := by decide +kernel
theorem d_Shelf_oldest_8 : decode b_Shelf_oldest 8 = .ok (.istore_n 3, 1) := by decide +kernel
theorem d_Shelf_oldest_9 : decode b_Shelf_oldest 9 = .ok (.iload_n 3, 1) := by decide +kernel
theorem d_Shelf_oldest_10 : decode b_Shelf_oldest 10 = .ok (.aload_n 0, 1) := by decide +kernel
theorem d_Shelf_oldest_11 : decode b_Shelf_oldest 11 = .ok (.getfield 17, 3) := by decide +kernel
theorem d_Shelf_oldest_14 : decode b_Shelf_oldest 14 = .ok (.arraylength, 1) := by decide +kernel
theorem d_Shelf_oldest_15 : decode b_Shelf_oldest 15 = .ok (.if_icmp .ge 61, 3) := by decide +kernel
theorem d_Shelf_oldest_18 : decode b_Shelf_oldest 18 = .ok (.aload_n 0, 1) := by decide +kernel
theorem d_Shelf_oldest_19 : decode b_Shelf_oldest 19 = .ok (.getfield 17, 3) := by decide +kernel
theorem d_Shelf_oldest_22 : decode b_Shelf_oldest 22 = .ok (.iload_n 3, 1) := by decide +kernel
theorem d_Shelf_oldest_23 : decode b_Shelf_oldest 23 = .ok (.aaload, 1) := by decide +kernel
theorem d_Shelf_oldest_24 : decode b_Shelf_oldest 24 = .ok (.astore 4, 2) := by decide +kernel
theorem d_Shelf_oldest_26 : decode b_Shelf_oldest 26 = .ok (.aload 4, 2) := by decide +kernel
theorem d_Shelf_oldest_28 : decode b_Shelf_oldest 28 = .ok (.getfield 38, 3) := by decide +kernel
theorem d_Shelf_oldest_31 : decode b_Shelf_oldest 31 = .ok (.aload_n 2, 1) := by decide +kernel
theorem d_Shelf_oldest_32 : decode b_Shelf_oldest 32 = .ok (.getfield 38, 3) := by decide +kernel
theorem d_Shelf_oldest_35 : decode b_Shelf_oldest 35 = .ok (.if_icmp .ge 7, 3) := by decide +kernel
theorem d_Shelf_oldest_38 : decode b_Shelf_oldest 38 = .ok (.iconst 1, 1) := by decide +kernel
theorem d_Shelf_oldest_39 : decode b_Shelf_oldest 39 = .ok (.goto 4, 3) := by decide +kernel
theorem d_Shelf_oldest_42 : decode b_Shelf_oldest 42 = .ok (.iconst 0, 1) := by decide +kernel
theorem d_Shelf_oldest_43 : decode b_Shelf_oldest 43 = .ok (.istore 5, 2) := by decide +kernel
theorem d_Shelf_oldest_45 : decode b_Shelf_oldest 45 = .ok (.aload 4, 2) := by decide +kernel
theorem d_Shelf_oldest_47 : decode b_Shelf_oldest 47 = .ok (.getfield 26, 3) := by decide +kernel
theorem d_Shelf_oldest_50 : decode b_Shelf_oldest 50 = .ok (.iload_n 1, 1) := by decide +kernel
theorem d_Shelf_oldest_51 : decode b_Shelf_oldest 51 = .ok (.if_icmp .eq 19, 3) := by decide +kernel
theorem d_Shelf_oldest_54 : decode b_Shelf_oldest 54 = .ok (.iload 5, 2) := by decide +kernel
theorem d_Shelf_oldest_56 : decode b_Shelf_oldest 56 = .ok (.ifCond .ne 11, 3) := by decide +kernel
theorem d_Shelf_oldest_59 : decode b_Shelf_oldest 59 = .ok (.aload_n 2, 1) := by decide +kernel
theorem d_Shelf_oldest_60 : decode b_Shelf_oldest 60 = .ok (.getfield 26, 3) := by decide +kernel
theorem d_Shelf_oldest_63 : decode b_Shelf_oldest 63 = .ok (.iload_n 1, 1) := by decide +kernel
theorem d_Shelf_oldest_64 : decode b_Shelf_oldest 64 = .ok (.if_icmp .ne 6, 3) := by decide +kernel
theorem d_Shelf_oldest_67 : decode b_Shelf_oldest 67 = .ok (.aload 4, 2) := by decide +kernel
theorem d_Shelf_oldest_69 : decode b_Shelf_oldest 69 = .ok (.astore_n 2, 1) := by decide +kernel
theorem d_Shelf_oldest_70 : decode b_Shelf_oldest 70 = .ok (.iinc 3 1, 3) := by decide +kernel
theorem d_Shelf_oldest_73 : decode b_Shelf_oldest 73 = .ok (.goto (-64), 3) := by decide +kernel
theorem d_Shelf_oldest_76 : decode b_Shelf_oldest 76 = .ok (.aload_n 2, 1) := by decide +kernel
theorem d_Shelf_oldest_77 : decode b_Shelf_oldest 77 = .ok (.areturn, 1) := by decide +kernel
theorem d_Page_copyFrom_0 : decode b_Page_copyFrom 0 = .ok (.aload_n 0, 1) := by decide +kernel
theorem d_Page_copyFrom_1 : decode b_Page_copyFrom 1 = .ok (.aload_n 1, 1) := by decide +kernel
theorem d_Page_copyFrom_2 : decode b_Page_copyFrom 2 = .ok (.getfield 21, 3) := by decide +kernel
theorem d_Page_copyFrom_5 : decode b_Page_copyFrom 5 = .ok (.putfield 21, 3) := by decide +kernel
theorem d_Page_copyFrom_8 : decode b_Page_copyFrom 8 = .ok (.aload_n 0, 1) := by decide +kernel
theorem d_Page_copyFrom_9 : decode b_Page_copyFrom 9 = .ok (.aload_n 1, 1) := by decide +kernel
theorem d_Page_copyFrom_10 : decode b_Page_copyFrom 10 = .ok (.getfield 25, 3) := by decide +kernel
theorem d_Page_copyFrom_13 : decode b_Page_copyFrom 13 = .ok (.putfield 25, 3) := by decide +kernel
theorem d_Page_copyFrom_16 : decode b_Page_copyFrom 16 = .ok (.aload_n 0, 1) := by decide +kernel
theorem d_Page_copyFrom_17 : decode b_Page_copyFrom 17 = .ok (.aload_n 1, 1) := by decide +kernel
theorem d_Page_copyFrom_18 : decode b_Page_copyFrom 18 = .ok (.getfield 35, 3) := by decide +kernel
theorem d_Page_copyFrom_21 : decode b_Page_copyFrom 21 = .ok (.putfield 35, 3) := by decide +kernel
theorem d_Page_copyFrom_24 : decode b_Page_copyFrom 24 = .ok (.aload_n 0, 1) := by decide +kernel
theorem d_Page_copyFrom_25 : decode b_Page_copyFrom 25 = .ok (.aload_n 1, 1) := by decide +kernel
theorem d_Page_copyFrom_26 : decode b_Page_copyFrom 26 = .ok (.getfield 38, 3) := by decide +kernel
theorem d_Page_copyFrom_29 : decode b_Page_copyFrom 29 = .ok (.putfield 38, 3) := by decide +kernel
theorem d_Page_copyFrom_32 : decode b_Page_copyFrom 32 = .ok (.aload_n 0, 1) := by decide +kernel
theorem d_Page_copyFrom_33 : decode b_Page_copyFrom 33 = .ok (.aload_n 1, 1) := by decide +kernel
theorem d_Page_copyFrom_34 : decode b_Page_copyFrom 34 = .ok (.getfield 41, 3) := by decide +kernel
theorem d_Page_copyFrom_37 : decode b_Page_copyFrom 37 = .ok (.putfield 41, 3) := by decide +kernel
theorem d_Page_copyFrom_40 : decode b_Page_copyFrom 40 = .ok (.aload_n 1, 1) := by decide +kernel
theorem d_Page_copyFrom_41 : decode b_Page_copyFrom 41 = .ok (.getfield 9, 3) := by decide +kernel
theorem d_Page_copyFrom_44 : decode b_Page_copyFrom 44 = .ok (.iconst 0, 1) := by decide +kernel
theorem d_Page_copyFrom_45 : decode b_Page_copyFrom 45 = .ok (.aload_n 0, 1) := by decide +kernel
theorem d_Page_copyFrom_46 : decode b_Page_copyFrom 46 = .ok (.getfield 9, 3) := by decide +kernel
theorem d_Page_copyFrom_49 : decode b_Page_copyFrom 49 = .ok (.iconst 0, 1) := by decide +kernel
theorem d_Page_copyFrom_50 : decode b_Page_copyFrom 50 = .ok (.aload_n 0, 1) := by decide +kernel
theorem d_Page_copyFrom_51 : decode b_Page_copyFrom 51 = .ok (.getfield 9, 3) := by decide +kernel
theorem d_Page_copyFrom_54 : decode b_Page_copyFrom 54 = .ok (.arraylength, 1) := by decide +kernel
theorem d_Page_copyFrom_55 : decode b_Page_copyFrom 55 = .ok (.invokestatic 44, 3) := by decide +kernel
theorem d_Page_copyFrom_58 : decode b_Page_copyFrom 58 = .ok (.aload_n 1, 1) := by decide +kernel
theorem d_Page_copyFrom_59 : decode b_Page_copyFrom 59 = .ok (.getfield 15, 3) := by decide +kernel
theorem d_Page_copyFrom_62 : decode b_Page_copyFrom 62 = .ok (.iconst 0, 1) := by decide +kernel
theorem d_Page_copyFrom_63 : decode b_Page_copyFrom 63 = .ok (.aload_n 0, 1) := by decide +kernel
theorem d_Page_copyFrom_64 : decode b_Page_copyFrom 64 = .ok (.getfield 15, 3) := by decide +kernel
theorem d_Page_copyFrom_67 : decode b_Page_copyFrom 67 = .ok (.iconst 0, 1) := by decide +kernel
theorem d_Page_copyFrom_68 : decode b_Page_copyFrom 68 = .ok (.aload_n 0, 1) := by decide +kernel
theorem d_Page_copyFrom_69 : decode b_Page_copyFrom 69 = .ok (.getfield 15, 3) := by decide +kernel
theorem d_Page_copyFrom_72 : decode b_Page_copyFrom 72 = .ok (.arraylength, 1) := by decide +kernel
theorem d_Page_copyFrom_73 : decode b_Page_copyFrom 73 = .ok (.invokestatic 44, 3) := by decide +kernel
theorem d_Page_copyFrom_76 : decode b_Page_copyFrom 76 = .ok (.aload_n 1, 1) := by decide +kernel
theorem d_Page_copyFrom_77 : decode b_Page_copyFrom 77 = .ok (.getfield 18, 3) := by decide +kernel
theorem d_Page_copyFrom_80 : decode b_Page_copyFrom 80 = .ok (.iconst 0, 1) := by decide +kernel
theorem d_Page_copyFrom_81 : decode b_Page_copyFrom 81 = .ok (.aload_n 0, 1) := by decide +kernel
theorem d_Page_copyFrom_82 : decode b_Page_copyFrom 82 = .ok (.getfield 18, 3) := by decide +kernel
theorem d_Page_copyFrom_85 : decode b_Page_copyFrom 85 = .ok (.iconst 0, 1) := by decide +kernel
theorem d_Page_copyFrom_86 : decode b_Page_copyFrom 86 = .ok (.aload_n 0, 1) := by decide +kernel
theorem d_Page_copyFrom_87 : decode b_Page_copyFrom 87 = .ok (.getfield 18, 3) := by decide +kernel
theorem d_Page_copyFrom_90 : decode b_Page_copyFrom 90 = .ok (.arraylength, 1) := by decide +kernel
theorem d_Page_copyFrom_91 : decode b_Page_copyFrom 91 = .ok (.invokestatic 44, 3) := by decide +kernel
theorem d_Page_copyFrom_94 : decode b_Page_copyFrom 94 = .ok (.return_, 1) := by decide +kernel
theorem d_Tuner_beginPage_0 : decode b_Tuner_beginPage 0 = .ok (.sipush 256, 3) := by decide +kernel
theorem d_Tuner_beginPage_3 : decode b_Tuner_beginPage 3 = .ok (.iload_n 1, 1) := by decide +kernel
theorem d_Tuner_beginPage_4 : decode b_Tuner_beginPage 4 = .ok (.imul, 1) := by decide +kernel
theorem d_Tuner_beginPage_5 : decode b_Tuner_beginPage 5 = .ok (.bipush 16, 2) := by decide +kernel
theorem d_Tuner_beginPage_7 : decode b_Tuner_beginPage 7 = .ok (.aload_n 0, 1) := by decide +kernel
theorem d_Tuner_beginPage_8 : decode b_Tuner_beginPage 8 = .ok (.getfield 21, 3) := by decide +kernel
theorem d_Tuner_beginPage_11 : decode b_Tuner_beginPage 11 = .ok (.iconst 1, 1) := by decide +kernel
theorem d_Tuner_beginPage_12 : decode b_Tuner_beginPage 12 = .ok (.iaload, 1) := by decide +kernel
theorem d_Tuner_beginPage_13 : decode b_Tuner_beginPage 13 = .ok (.imul, 1) := by decide +kernel
theorem d_Tuner_beginPage_14 : decode b_Tuner_beginPage 14 = .ok (.iadd, 1) := by decide +kernel
theorem d_Tuner_beginPage_15 : decode b_Tuner_beginPage 15 = .ok (.aload_n 0, 1) := by decide +kernel
theorem d_Tuner_beginPage_16 : decode b_Tuner_beginPage 16 = .ok (.getfield 21, 3) := by decide +kernel
theorem d_Tuner_beginPage_19 : decode b_Tuner_beginPage 19 = .ok (.iconst 0, 1) := by decide +kernel
theorem d_Tuner_beginPage_20 : decode b_Tuner_beginPage 20 = .ok (.iaload, 1) := by decide +kernel
theorem d_Tuner_beginPage_21 : decode b_Tuner_beginPage 21 = .ok (.iadd, 1) := by decide +kernel
theorem d_Tuner_beginPage_22 : decode b_Tuner_beginPage 22 = .ok (.istore_n 2, 1) := by decide +kernel
theorem d_Tuner_beginPage_23 : decode b_Tuner_beginPage 23 = .ok (.aload_n 0, 1) := by decide +kernel
theorem d_Tuner_beginPage_24 : decode b_Tuner_beginPage 24 = .ok (.getfield 11, 3) := by decide +kernel
theorem d_Tuner_beginPage_27 : decode b_Tuner_beginPage 27 = .ok (.iload_n 1, 1) := by decide +kernel
theorem d_Tuner_beginPage_28 : decode b_Tuner_beginPage 28 = .ok (.aaload, 1) := by decide +kernel
theorem d_Tuner_beginPage_29 : decode b_Tuner_beginPage 29 = .ok (.astore_n 3, 1) := by decide +kernel
theorem d_Tuner_beginPage_30 : decode b_Tuner_beginPage 30 = .ok (.aload_n 0, 1) := by decide +kernel
theorem d_Tuner_beginPage_31 : decode b_Tuner_beginPage 31 = .ok (.getfield 21, 3) := by decide +kernel
theorem d_Tuner_beginPage_34 : decode b_Tuner_beginPage 34 = .ok (.iconst 3, 1) := by decide +kernel
theorem d_Tuner_beginPage_35 : decode b_Tuner_beginPage 35 = .ok (.iaload, 1) := by decide +kernel
theorem d_Tuner_beginPage_36 : decode b_Tuner_beginPage 36 = .ok (.bipush 8, 2) := by decide +kernel
theorem d_Tuner_beginPage_38 : decode b_Tuner_beginPage 38 = .ok (.if_icmp .ge 14, 3) := by decide +kernel
theorem d_Tuner_beginPage_41 : decode b_Tuner_beginPage 41 = .ok (.aload_n 0, 1) := by decide +kernel
theorem d_Tuner_beginPage_42 : decode b_Tuner_beginPage 42 = .ok (.getfield 28, 3) := by decide +kernel
theorem d_Tuner_beginPage_45 : decode b_Tuner_beginPage 45 = .ok (.iload_n 2, 1) := by decide +kernel
theorem d_Tuner_beginPage_46 : decode b_Tuner_beginPage 46 = .ok (.invokevirtual 101, 3) := by decide +kernel
theorem d_Tuner_beginPage_49 : decode b_Tuner_beginPage 49 = .ok (.goto 4, 3) := by decide +kernel
theorem d_Tuner_beginPage_52 : decode b_Tuner_beginPage 52 = .ok (.aconst_null, 1) := by decide +kernel
theorem d_Tuner_beginPage_53 : decode b_Tuner_beginPage 53 = .ok (.astore 4, 2) := by decide +kernel
theorem d_Tuner_beginPage_55 : decode b_Tuner_beginPage 55 = .ok (.aload 4, 2) := by decide +kernel
theorem d_Tuner_beginPage_57 : decode b_Tuner_beginPage 57 = .ok (.ifnonnull 11, 3) := by decide +kernel
theorem d_Tuner_beginPage_60 : decode b_Tuner_beginPage 60 = .ok (.aload_n 3, 1) := by decide +kernel
theorem d_Tuner_beginPage_61 : decode b_Tuner_beginPage 61 = .ok (.iload_n 2, 1) := by decide +kernel
theorem d_Tuner_beginPage_62 : decode b_Tuner_beginPage 62 = .ok (.invokevirtual 105, 3) := by decide +kernel
theorem d_Tuner_beginPage_65 : decode b_Tuner_beginPage 65 = .ok (.goto 9, 3) := by decide +kernel
theorem d_Tuner_beginPage_68 : decode b_Tuner_beginPage 68 = .ok (.aload_n 3, 1) := by decide +kernel
theorem d_Tuner_beginPage_69 : decode b_Tuner_beginPage 69 = .ok (.aload 4, 2) := by decide +kernel
theorem d_Tuner_beginPage_71 : decode b_Tuner_beginPage 71 = .ok (.invokevirtual 108, 3) := by decide +kernel
theorem d_Tuner_beginPage_74 : decode b_Tuner_beginPage 74 = .ok (.aload_n 3, 1) := by decide +kernel
theorem d_Tuner_beginPage_75 : decode b_Tuner_beginPage 75 = .ok (.aload_n 0, 1) := by decide +kernel
theorem d_Tuner_beginPage_76 : decode b_Tuner_beginPage 76 = .ok (.getfield 21, 3) := by decide +kernel
theorem d_Tuner_beginPage_79 : decode b_Tuner_beginPage 79 = .ok (.iconst 2, 1) := by decide +kernel
theorem d_Tuner_beginPage_80 : decode b_Tuner_beginPage 80 = .ok (.iaload, 1) := by decide +kernel
theorem d_Tuner_beginPage_81 : decode b_Tuner_beginPage 81 = .ok (.putfield 111, 3) := by decide +kernel
theorem d_Tuner_beginPage_84 : decode b_Tuner_beginPage 84 = .ok (.aload_n 3, 1) := by decide +kernel
theorem d_Tuner_beginPage_85 : decode b_Tuner_beginPage 85 = .ok (.aload_n 0, 1) := by decide +kernel
theorem d_Tuner_beginPage_86 : decode b_Tuner_beginPage 86 = .ok (.getfield 21, 3) := by decide +kernel
theorem d_Tuner_beginPage_89 : decode b_Tuner_beginPage 89 = .ok (.iconst 5, 1) := by decide +kernel
theorem d_Tuner_beginPage_90 : decode b_Tuner_beginPage 90 = .ok (.iaload, 1) := by decide +kernel
theorem d_Tuner_beginPage_91 : decode b_Tuner_beginPage 91 = .ok (.bipush 8, 2) := by decide +kernel
theorem d_Tuner_beginPage_93 : decode b_Tuner_beginPage 93 = .ok (.irem, 1) := by decide +kernel
theorem d_Tuner_beginPage_94 : decode b_Tuner_beginPage 94 = .ok (.putfield 114, 3) := by decide +kernel
theorem d_Tuner_beginPage_97 : decode b_Tuner_beginPage 97 = .ok (.return_, 1) := by decide +kernel
theorem d_Page_begin_0 : decode b_Page_begin 0 = .ok (.aload_n 0, 1) := by decide +kernel
theorem d_Page_begin_1 : decode b_Page_begin 1 = .ok (.iconst 1, 1) := by decide +kernel
theorem d_Page_begin_2 : decode b_Page_begin 2 = .ok (.putfield 21, 3) := by decide +kernel
theorem d_Page_begin_5 : decode b_Page_begin 5 = .ok (.aload_n 0, 1) := by decide +kernel
theorem d_Page_begin_6 : decode b_Page_begin 6 = .ok (.iload_n 1, 1) := by decide +kernel
theorem d_Page_begin_7 : decode b_Page_begin 7 = .ok (.putfield 25, 3) := by decide +kernel
theorem d_Page_begin_10 : decode b_Page_begin 10 = .ok (.aload_n 0, 1) := by decide +kernel
theorem d_Page_begin_11 : decode b_Page_begin 11 = .ok (.getfield 9, 3) := by decide +kernel
theorem d_Page_begin_14 : decode b_Page_begin 14 = .ok (.bipush 32, 2) := by decide +kernel
theorem d_Page_begin_16 : decode b_Page_begin 16 = .ok (.invokestatic 29, 3) := by decide +kernel
theorem d_Page_begin_19 : decode b_Page_begin 19 = .ok (.aload_n 0, 1) := by decide +kernel
theorem d_Page_begin_20 : decode b_Page_begin 20 = .ok (.getfield 15, 3) := by decide +kernel
theorem d_Page_begin_23 : decode b_Page_begin 23 = .ok (.iconst 0, 1) := by decide +kernel
theorem d_Page_begin_24 : decode b_Page_begin 24 = .ok (.invokestatic 29, 3) := by decide +kernel
theorem d_Page_begin_27 : decode b_Page_begin 27 = .ok (.aload_n 0, 1) := by decide +kernel
theorem d_Page_begin_28 : decode b_Page_begin 28 = .ok (.getfield 18, 3) := by decide +kernel
theorem d_Page_begin_31 : decode b_Page_begin 31 = .ok (.iconst (-1), 1) := by decide +kernel
theorem d_Page_begin_32 : decode b_Page_begin 32 = .ok (.invokestatic 29, 3) := by decide +kernel
theorem d_Page_begin_35 : decode b_Page_begin 35 = .ok (.return_, 1) := by decide +kernel
theorem d_Tuner_takeHeaderLetters_0 : decode b_Tuner_takeHeaderLetters 0 = .ok (.bipush 8, 2) := by decide +kernel
theorem d_Tuner_takeHeaderLetters_2 : decode b_Tuner_takeHeaderLetters 2 = .ok (.istore_n 3, 1) := by decide +kernel
theorem d_Tuner_takeHeaderLetters_3 : decode b_Tuner_takeHeaderLetters 3 = .ok (.iload_n 3, 1) := by decide +kernel
theorem d_Tuner_takeHeaderLetters_4 : decode b_Tuner_takeHeaderLetters 4 = .ok (.bipush 20, 2) := by decide +kernel
theorem d_Tuner_takeHeaderLetters_6 : decode b_Tuner_takeHeaderLetters 6 = .ok (.if_icmp .ge 60, 3) := by decide +kernel
theorem d_Tuner_takeHeaderLetters_9 : decode b_Tuner_takeHeaderLetters 9 = .ok (.aload_n 0, 1) := by decide +kernel
theorem d_Tuner_takeHeaderLetters_10 : decode b_Tuner_takeHeaderLetters 10 = .ok (.getfield 24, 3) := by decide +kernel
theorem d_Tuner_takeHeaderLetters_13 : decode b_Tuner_takeHeaderLetters 13 = .ok (.iconst 2, 1) := by decide +kernel
theorem d_Tuner_takeHeaderLetters_14 : decode b_Tuner_takeHeaderLetters 14 = .ok (.iload_n 3, 1) := by decide +kernel
theorem d_Tuner_takeHeaderLetters_15 : decode b_Tuner_takeHeaderLetters 15 = .ok (.iadd, 1) := by decide +kernel
theorem d_Tuner_takeHeaderLetters_16 : decode b_Tuner_takeHeaderLetters 16 = .ok (.invokevirtual 117, 3) := by decide +kernel
theorem d_Tuner_takeHeaderLetters_19 : decode b_Tuner_takeHeaderLetters 19 = .ok (.istore 4, 2) := by decide +kernel
theorem d_Tuner_takeHeaderLetters_21 : decode b_Tuner_takeHeaderLetters 21 = .ok (.iload 4, 2) := by decide +kernel
theorem d_Tuner_takeHeaderLetters_23 : decode b_Tuner_takeHeaderLetters 23 = .ok (.iconst (-1), 1) := by decide +kernel
theorem d_Tuner_takeHeaderLetters_24 : decode b_Tuner_takeHeaderLetters 24 = .ok (.if_icmp .eq 18, 3) := by decide +kernel
theorem d_Tuner_takeHeaderLetters_27 : decode b_Tuner_takeHeaderLetters 27 = .ok (.aload_n 1, 1) := by decide +kernel
theorem d_Tuner_takeHeaderLetters_28 : decode b_Tuner_takeHeaderLetters 28 = .ok (.getfield 56, 3) := by decide +kernel
theorem d_Tuner_takeHeaderLetters_31 : decode b_Tuner_takeHeaderLetters 31 = .ok (.ifCond .eq 11, 3) := by decide +kernel
theorem d_Tuner_takeHeaderLetters_34 : decode b_Tuner_takeHeaderLetters 34 = .ok (.aload_n 1, 1) := by decide +kernel
theorem d_Tuner_takeHeaderLetters_35 : decode b_Tuner_takeHeaderLetters 35 = .ok (.iconst 0, 1) := by decide +kernel
theorem d_Tuner_takeHeaderLetters_36 : decode b_Tuner_takeHeaderLetters 36 = .ok (.iload_n 3, 1) := by decide +kernel
theorem d_Tuner_takeHeaderLetters_37 : decode b_Tuner_takeHeaderLetters 37 = .ok (.iload 4, 2) := by decide +kernel
theorem d_Tuner_takeHeaderLetters_39 : decode b_Tuner_takeHeaderLetters 39 = .ok (.invokevirtual 120, 3) := by decide +kernel
theorem d_Tuner_takeHeaderLetters_42 : decode b_Tuner_takeHeaderLetters 42 = .ok (.iload 4, 2) := by decide +kernel
theorem d_Tuner_takeHeaderLetters_44 : decode b_Tuner_takeHeaderLetters 44 = .ok (.iconst (-1), 1) := by decide +kernel
theorem d_Tuner_takeHeaderLetters_45 : decode b_Tuner_takeHeaderLetters 45 = .ok (.if_icmp .eq 15, 3) := by decide +kernel
theorem d_Tuner_takeHeaderLetters_48 : decode b_Tuner_takeHeaderLetters 48 = .ok (.iload_n 2, 1) := by decide +kernel
theorem d_Tuner_takeHeaderLetters_49 : decode b_Tuner_takeHeaderLetters 49 = .ok (.ifCond .eq 11, 3) := by decide +kernel
theorem d_Tuner_takeHeaderLetters_52 : decode b_Tuner_takeHeaderLetters 52 = .ok (.aload_n 0, 1) := by decide +kernel
theorem d_Tuner_takeHeaderLetters_53 : decode b_Tuner_takeHeaderLetters 53 = .ok (.getfield 17, 3) := by decide +kernel
theorem d_Tuner_takeHeaderLetters_56 : decode b_Tuner_takeHeaderLetters 56 = .ok (.iload_n 3, 1) := by decide +kernel
theorem d_Tuner_takeHeaderLetters_57 : decode b_Tuner_takeHeaderLetters 57 = .ok (.iload 4, 2) := by decide +kernel
theorem d_Tuner_takeHeaderLetters_59 : decode b_Tuner_takeHeaderLetters 59 = .ok (.iastore, 1) := by decide +kernel
theorem d_Tuner_takeHeaderLetters_60 : decode b_Tuner_takeHeaderLetters 60 = .ok (.iinc 3 1, 3) := by decide +kernel
theorem d_Tuner_takeHeaderLetters_63 : decode b_Tuner_takeHeaderLetters 63 = .ok (.goto (-60), 3) := by decide +kernel
theorem d_Tuner_takeHeaderLetters_66 : decode b_Tuner_takeHeaderLetters 66 = .ok (.return_, 1) := by decide +kernel
theorem d_Packet_letter_0 : decode b_Packet_letter 0 = .ok (.aload_n 0, 1) := by decide +kernel
theorem d_Packet_letter_1 : decode b_Packet_letter 1 = .ok (.iload_n 1, 1) := by decide +kernel
theorem d_Packet_letter_2 : decode b_Packet_letter 2 = .ok (.invokevirtual 25, 3) := by decide +kernel
theorem d_Packet_letter_5 : decode b_Packet_letter 5 = .ok (.istore_n 2, 1) := by decide +kernel
theorem d_Packet_letter_6 : decode b_Packet_letter 6 = .ok (.iload_n 2, 1) := by decide +kernel
theorem d_Packet_letter_7 : decode b_Packet_letter 7 = .ok (.invokestatic 34, 3) := by decide +kernel
theorem d_Packet_letter_10 : decode b_Packet_letter 10 = .ok (.ifCond .ne 15, 3) := by decide +kernel
theorem d_Packet_letter_13 : decode b_Packet_letter 13 = .ok (.aload_n 0, 1) := by decide +kernel
theorem d_Packet_letter_14 : decode b_Packet_letter 14 = .ok (.getfield 15, 3) := by decide +kernel
theorem d_Packet_letter_17 : decode b_Packet_letter 17 = .ok (.iconst 4, 1) := by decide +kernel
theorem d_Packet_letter_18 : decode b_Packet_letter 18 = .ok (.dup2, 1) := by decide +kernel
theorem d_Packet_letter_19 : decode b_Packet_letter 19 = .ok (.iaload, 1) := by decide +kernel
theorem d_Packet_letter_20 : decode b_Packet_letter 20 = .ok (.iconst 1, 1) := by decide +kernel
theorem d_Packet_letter_21 : decode b_Packet_letter 21 = .ok (.iadd, 1) := by decide +kernel
theorem d_Packet_letter_22 : decode b_Packet_letter 22 = .ok (.iastore, 1) := by decide +kernel
theorem d_Packet_letter_23 : decode b_Packet_letter 23 = .ok (.iconst (-1), 1) := by decide +kernel
theorem d_Packet_letter_24 : decode b_Packet_letter 24 = .ok (.ireturn, 1) := by decide +kernel
theorem d_Packet_letter_25 : decode b_Packet_letter 25 = .ok (.iload_n 2, 1) := by decide +kernel
theorem d_Packet_letter_26 : decode b_Packet_letter 26 = .ok (.bipush 127, 2) := by decide +kernel
theorem d_Packet_letter_28 : decode b_Packet_letter 28 = .ok (.iand, 1) := by decide +kernel
theorem d_Packet_letter_29 : decode b_Packet_letter 29 = .ok (.ireturn, 1) := by decide +kernel
theorem d_Packet_isOdd_0 : decode b_Packet_isOdd 0 = .ok (.iload_n 0, 1) := by decide +kernel
theorem d_Packet_isOdd_1 : decode b_Packet_isOdd 1 = .ok (.invokestatic 29, 3) := by decide +kernel
theorem d_Packet_isOdd_4 : decode b_Packet_isOdd 4 = .ok (.iconst 2, 1) := by decide +kernel
theorem d_Packet_isOdd_5 : decode b_Packet_isOdd 5 = .ok (.irem, 1) := by decide +kernel
theorem d_Packet_isOdd_6 : decode b_Packet_isOdd 6 = .ok (.iconst 1, 1) := by decide +kernel
theorem d_Packet_isOdd_7 : decode b_Packet_isOdd 7 = .ok (.if_icmp .ne 7, 3) := by decide +kernel
theorem d_Packet_isOdd_10 : decode b_Packet_isOdd 10 = .ok (.iconst 1, 1) := by decide +kernel
theorem d_Packet_isOdd_11 : decode b_Packet_isOdd 11 = .ok (.goto 4, 3) := by decide +kernel
theorem d_Packet_isOdd_14 : decode b_Packet_isOdd 14 = .ok (.iconst 0, 1) := by decide +kernel
theorem d_Packet_isOdd_15 : decode b_Packet_isOdd 15 = .ok (.ireturn, 1) := by decide +kernel
theorem d_Page_setLetter_0 : decode b_Page_setLetter 0 = .ok (.iload_n 1, 1) := by decide +kernel
theorem d_Page_setLetter_1 : decode b_Page_setLetter 1 = .ok (.iload_n 2, 1) := by decide +kernel
theorem d_Page_setLetter_2 : decode b_Page_setLetter 2 = .ok (.invokestatic 50, 3) := by decide +kernel
theorem d_Page_setLetter_5 : decode b_Page_setLetter 5 = .ok (.ifCond .eq 15, 3) := by decide +kernel
theorem d_Page_setLetter_8 : decode b_Page_setLetter 8 = .ok (.aload_n 0, 1) := by decide +kernel
theorem d_Page_setLetter_9 : decode b_Page_setLetter 9 = .ok (.getfield 9, 3) := by decide +kernel
theorem d_Page_setLetter_12 : decode b_Page_setLetter 12 = .ok (.iload_n 1, 1) := by decide +kernel
theorem d_Page_setLetter_13 : decode b_Page_setLetter 13 = .ok (.bipush 20, 2) := by decide +kernel
theorem d_Page_setLetter_15 : decode b_Page_setLetter 15 = .ok (.imul, 1) := by decide +kernel
theorem d_Page_setLetter_16 : decode b_Page_setLetter 16 = .ok (.iload_n 2, 1) := by decide +kernel
theorem d_Page_setLetter_17 : decode b_Page_setLetter 17 = .ok (.iadd, 1) := by decide +kernel
theorem d_Page_setLetter_18 : decode b_Page_setLetter 18 = .ok (.iload_n 3, 1) := by decide +kernel
theorem d_Page_setLetter_19 : decode b_Page_setLetter 19 = .ok (.iastore, 1) := by decide +kernel
theorem d_Page_setLetter_20 : decode b_Page_setLetter 20 = .ok (.return_, 1) := by decide +kernel
theorem d_Recv_isCell_0 : decode b_Recv_isCell 0 = .ok (.iload_n 0, 1) := by decide +kernel
theorem d_Recv_isCell_1 : decode b_Recv_isCell 1 = .ok (.ifCond .lt 23, 3) := by decide +kernel
theorem d_Recv_isCell_4 : decode b_Recv_isCell 4 = .ok (.iload_n 0, 1) := by decide +kernel
theorem d_Recv_isCell_5 : decode b_Recv_isCell 5 = .ok (.bipush 8, 2) := by decide +kernel
theorem d_Recv_isCell_7 : decode b_Recv_isCell 7 = .ok (.if_icmp .ge 17, 3) := by decide +kernel
theorem d_Recv_isCell_10 : decode b_Recv_isCell 10 = .ok (.iload_n 1, 1) := by decide +kernel
theorem d_Recv_isCell_11 : decode b_Recv_isCell 11 = .ok (.ifCond .lt 13, 3) := by decide +kernel
theorem d_Recv_isCell_14 : decode b_Recv_isCell 14 = .ok (.iload_n 1, 1) := by decide +kernel
theorem d_Recv_isCell_15 : decode b_Recv_isCell 15 = .ok (.bipush 20, 2) := by decide +kernel
theorem d_Recv_isCell_17 : decode b_Recv_isCell 17 = .ok (.if_icmp .ge 7, 3) := by decide +kernel
theorem d_Recv_isCell_20 : decode b_Recv_isCell 20 = .ok (.iconst 1, 1) := by decide +kernel
theorem d_Recv_isCell_21 : decode b_Recv_isCell 21 = .ok (.goto 4, 3) := by decide +kernel
theorem d_Recv_isCell_24 : decode b_Recv_isCell 24 = .ok (.iconst 0, 1) := by decide +kernel
theorem d_Recv_isCell_25 : decode b_Recv_isCell 25 = .ok (.ireturn, 1) := by decide +kernel
theorem d_Tuner_takeRow_0 : decode b_Tuner_takeRow 0 = .ok (.iload_n 3, 1) := by decide +kernel
theorem d_Tuner_takeRow_1 : decode b_Tuner_takeRow 1 = .ok (.bipush 8, 2) := by decide +kernel
theorem d_Tuner_takeRow_3 : decode b_Tuner_takeRow 3 = .ok (.if_icmp .ge 12, 3) := by decide +kernel
theorem d_Tuner_takeRow_6 : decode b_Tuner_takeRow 6 = .ok (.aload_n 0, 1) := by decide +kernel
theorem d_Tuner_takeRow_7 : decode b_Tuner_takeRow 7 = .ok (.aload_n 1, 1) := by decide +kernel
theorem d_Tuner_takeRow_8 : decode b_Tuner_takeRow 8 = .ok (.iload_n 3, 1) := by decide +kernel
theorem d_Tuner_takeRow_9 : decode b_Tuner_takeRow 9 = .ok (.invokevirtual 64, 3) := by decide +kernel
theorem d_Tuner_takeRow_12 : decode b_Tuner_takeRow 12 = .ok (.goto 29, 3) := by decide +kernel
theorem d_Tuner_takeRow_15 : decode b_Tuner_takeRow 15 = .ok (.iload_n 3, 1) := by decide +kernel
theorem d_Tuner_takeRow_16 : decode b_Tuner_takeRow 16 = .ok (.bipush 26, 2) := by decide +kernel
theorem d_Tuner_takeRow_18 : decode b_Tuner_takeRow 18 = .ok (.if_icmp .ne 11, 3) := by decide +kernel
theorem d_Tuner_takeRow_21 : decode b_Tuner_takeRow 21 = .ok (.aload_n 0, 1) := by decide +kernel
theorem d_Tuner_takeRow_22 : decode b_Tuner_takeRow 22 = .ok (.aload_n 1, 1) := by decide +kernel
theorem d_Tuner_takeRow_23 : decode b_Tuner_takeRow 23 = .ok (.invokevirtual 68, 3) := by decide +kernel
theorem d_Tuner_takeRow_26 : decode b_Tuner_takeRow 26 = .ok (.goto 15, 3) := by decide +kernel
theorem d_Tuner_takeRow_29 : decode b_Tuner_takeRow 29 = .ok (.iload_n 3, 1) := by decide +kernel
theorem d_Tuner_takeRow_30 : decode b_Tuner_takeRow 30 = .ok (.bipush 27, 2) := by decide +kernel
theorem d_Tuner_takeRow_32 : decode b_Tuner_takeRow 32 = .ok (.if_icmp .ne 9, 3) := by decide +kernel
theorem d_Tuner_takeRow_35 : decode b_Tuner_takeRow 35 = .ok (.aload_n 0, 1) := by decide +kernel
theorem d_Tuner_takeRow_36 : decode b_Tuner_takeRow 36 = .ok (.aload_n 1, 1) := by decide +kernel
theorem d_Tuner_takeRow_37 : decode b_Tuner_takeRow 37 = .ok (.iload_n 2, 1) := by decide +kernel
theorem d_Tuner_takeRow_38 : decode b_Tuner_takeRow 38 = .ok (.invokevirtual 72, 3) := by decide +kernel
theorem d_Tuner_takeRow_41 : decode b_Tuner_takeRow 41 = .ok (.return_, 1) := by decide +kernel
theorem d_Tuner_takeLetters_0 : decode b_Tuner_takeLetters 0 = .ok (.iconst 0, 1) := by decide +kernel
theorem d_Tuner_takeLetters_1 : decode b_Tuner_takeLetters 1 = .ok (.istore_n 3, 1) := by decide +kernel
theorem d_Tuner_takeLetters_2 : decode b_Tuner_takeLetters 2 = .ok (.iload_n 3, 1) := by decide +kernel
theorem d_Tuner_takeLetters_3 : decode b_Tuner_takeLetters 3 = .ok (.bipush 20, 2) := by decide +kernel
theorem d_Tuner_takeLetters_5 : decode b_Tuner_takeLetters 5 = .ok (.if_icmp .ge 35, 3) := by decide +kernel
theorem d_Tuner_takeLetters_8 : decode b_Tuner_takeLetters 8 = .ok (.aload_n 0, 1) := by decide +kernel
theorem d_Tuner_takeLetters_9 : decode b_Tuner_takeLetters 9 = .ok (.getfield 24, 3) := by decide +kernel
theorem d_Tuner_takeLetters_12 : decode b_Tuner_takeLetters 12 = .ok (.iconst 2, 1) := by decide +kernel
theorem d_Tuner_takeLetters_13 : decode b_Tuner_takeLetters 13 = .ok (.iload_n 3, 1) := by decide +kernel
theorem d_Tuner_takeLetters_14 : decode b_Tuner_takeLetters 14 = .ok (.iadd, 1) := by decide +kernel
theorem d_Tuner_takeLetters_15 : decode b_Tuner_takeLetters 15 = .ok (.invokevirtual 117, 3) := by decide +kernel
theorem d_Tuner_takeLetters_18 : decode b_Tuner_takeLetters 18 = .ok (.istore 4, 2) := by decide +kernel
theorem d_Tuner_takeLetters_20 : decode b_Tuner_takeLetters 20 = .ok (.iload 4, 2) := by decide +kernel
theorem d_Tuner_takeLetters_22 : decode b_Tuner_takeLetters 22 = .ok (.iconst (-1), 1) := by decide +kernel
theorem d_Tuner_takeLetters_23 : decode b_Tuner_takeLetters 23 = .ok (.if_icmp .eq 11, 3) := by decide +kernel
theorem d_Tuner_takeLetters_26 : decode b_Tuner_takeLetters 26 = .ok (.aload_n 1, 1) := by decide +kernel
theorem d_Tuner_takeLetters_27 : decode b_Tuner_takeLetters 27 = .ok (.iload_n 2, 1) := by decide +kernel
theorem d_Tuner_takeLetters_28 : decode b_Tuner_takeLetters 28 = .ok (.iload_n 3, 1) := by decide +kernel
theorem d_Tuner_takeLetters_29 : decode b_Tuner_takeLetters 29 = .ok (.iload 4, 2) := by decide +kernel
theorem d_Tuner_takeLetters_31 : decode b_Tuner_takeLetters 31 = .ok (.invokevirtual 120, 3) := by decide +kernel
theorem d_Tuner_takeLetters_34 : decode b_Tuner_takeLetters 34 = .ok (.iinc 3 1, 3) := by decide +kernel
theorem d_Tuner_takeLetters_37 : decode b_Tuner_takeLetters 37 = .ok (.goto (-35), 3) := by decide +kernel
theorem d_Tuner_takeLetters_40 : decode b_Tuner_takeLetters 40 = .ok (.return_, 1) := by decide +kernel
theorem d_Tuner_takeOverlays_0 : decode b_Tuner_takeOverlays 0 = .ok (.iconst 0, 1) := by decide +kernel
theorem d_Tuner_takeOverlays_1 : decode b_Tuner_takeOverlays 1 = .ok (.istore_n 2, 1) := by decide +kernel
theorem d_Tuner_takeOverlays_2 : decode b_Tuner_takeOverlays 2 = .ok (.iconst 0, 1) := by decide +kernel
theorem d_Tuner_takeOverlays_3 : decode b_Tuner_takeOverlays 3 = .ok (.istore_n 3, 1) := by decide +kernel
theorem d_Tuner_takeOverlays_4 : decode b_Tuner_takeOverlays 4 = .ok (.iload_n 3, 1) := by decide +kernel
theorem d_Tuner_takeOverlays_5 : decode b_Tuner_takeOverlays 5 = .ok (.bipush 6, 2) := by decide +kernel
theorem d_Tuner_takeOverlays_7 : decode b_Tuner_takeOverlays 7 = .ok (.if_icmp .ge 37, 3) := by decide +kernel
theorem d_Tuner_takeOverlays_10 : decode b_Tuner_takeOverlays 10 = .ok (.aload_n 0, 1) := by decide +kernel
theorem d_Tuner_takeOverlays_11 : decode b_Tuner_takeOverlays 11 = .ok (.getfield 24, 3) := by decide +kernel
theorem d_Tuner_takeOverlays_14 : decode b_Tuner_takeOverlays 14 = .ok (.iconst 2, 1) := by decide +kernel
theorem d_Tuner_takeOverlays_15 : decode b_Tuner_takeOverlays 15 = .ok (.iconst 3, 1) := by decide +kernel
theorem d_Tuner_takeOverlays_16 : decode b_Tuner_takeOverlays 16 = .ok (.iload_n 3, 1) := by decide +kernel
theorem d_Tuner_takeOverlays_17 : decode b_Tuner_takeOverlays 17 = .ok (.imul, 1) := by decide +kernel
theorem d_Tuner_takeOverlays_18 : decode b_Tuner_takeOverlays 18 = .ok (.iadd, 1) := by decide +kernel
theorem d_Tuner_takeOverlays_19 : decode b_Tuner_takeOverlays 19 = .ok (.invokevirtual 124, 3) := by decide +kernel
theorem d_Tuner_takeOverlays_22 : decode b_Tuner_takeOverlays 22 = .ok (.istore 4, 2) := by decide +kernel
theorem d_Tuner_takeOverlays_24 : decode b_Tuner_takeOverlays 24 = .ok (.iload 4, 2) := by decide +kernel
theorem d_Tuner_takeOverlays_26 : decode b_Tuner_takeOverlays 26 = .ok (.iconst (-1), 1) := by decide +kernel
theorem d_Tuner_takeOverlays_27 : decode b_Tuner_takeOverlays 27 = .ok (.if_icmp .eq 11, 3) := by decide +kernel
theorem d_Tuner_takeOverlays_30 : decode b_Tuner_takeOverlays 30 = .ok (.aload_n 1, 1) := by decide +kernel
theorem d_Tuner_takeOverlays_31 : decode b_Tuner_takeOverlays 31 = .ok (.iload_n 2, 1) := by decide +kernel
theorem d_Tuner_takeOverlays_32 : decode b_Tuner_takeOverlays 32 = .ok (.iload 4, 2) := by decide +kernel
theorem d_Tuner_takeOverlays_34 : decode b_Tuner_takeOverlays 34 = .ok (.invokestatic 127, 3) := by decide +kernel
theorem d_Tuner_takeOverlays_37 : decode b_Tuner_takeOverlays 37 = .ok (.istore_n 2, 1) := by decide +kernel
theorem d_Tuner_takeOverlays_38 : decode b_Tuner_takeOverlays 38 = .ok (.iinc 3 1, 3) := by decide +kernel
theorem d_Tuner_takeOverlays_41 : decode b_Tuner_takeOverlays 41 = .ok (.goto (-37), 3) := by decide +kernel
theorem d_Tuner_takeOverlays_44 : decode b_Tuner_takeOverlays 44 = .ok (.return_, 1) := by decide +kernel
theorem d_Packet_triplet_0 : decode b_Packet_triplet 0 = .ok (.aload_n 0, 1) := by decide +kernel
theorem d_Packet_triplet_1 : decode b_Packet_triplet 1 = .ok (.iload_n 1, 1) := by decide +kernel
theorem d_Packet_triplet_2 : decode b_Packet_triplet 2 = .ok (.invokevirtual 25, 3) := by decide +kernel
theorem d_Packet_triplet_5 : decode b_Packet_triplet 5 = .ok (.aload_n 0, 1) := by decide +kernel
theorem d_Packet_triplet_6 : decode b_Packet_triplet 6 = .ok (.iload_n 1, 1) := by decide +kernel
theorem d_Packet_triplet_7 : decode b_Packet_triplet 7 = .ok (.iconst 1, 1) := by decide +kernel
theorem d_Packet_triplet_8 : decode b_Packet_triplet 8 = .ok (.iadd, 1) := by decide +kernel
theorem d_Packet_triplet_9 : decode b_Packet_triplet 9 = .ok (.invokevirtual 25, 3) := by decide +kernel
theorem d_Packet_triplet_12 : decode b_Packet_triplet 12 = .ok (.bipush 8, 2) := by decide +kernel
theorem d_Packet_triplet_14 : decode b_Packet_triplet 14 = .ok (.ishl, 1) := by decide +kernel
theorem d_Packet_triplet_15 : decode b_Packet_triplet 15 = .ok (.ior, 1) := by decide +kernel
theorem d_Packet_triplet_16 : decode b_Packet_triplet 16 = .ok (.aload_n 0, 1) := by decide +kernel
theorem d_Packet_triplet_17 : decode b_Packet_triplet 17 = .ok (.iload_n 1, 1) := by decide +kernel
theorem d_Packet_triplet_18 : decode b_Packet_triplet 18 = .ok (.iconst 2, 1) := by decide +kernel
theorem d_Packet_triplet_19 : decode b_Packet_triplet 19 = .ok (.iadd, 1) := by decide +kernel
theorem d_Packet_triplet_20 : decode b_Packet_triplet 20 = .ok (.invokevirtual 25, 3) := by decide +kernel
theorem d_Packet_triplet_23 : decode b_Packet_triplet 23 = .ok (.bipush 16, 2) := by decide +kernel
theorem d_Packet_triplet_25 : decode b_Packet_triplet 25 = .ok (.ishl, 1) := by decide +kernel
theorem d_Packet_triplet_26 : decode b_Packet_triplet 26 = .ok (.ior, 1) := by decide +kernel
theorem d_Packet_triplet_27 : decode b_Packet_triplet 27 = .ok (.istore_n 2, 1) := by decide +kernel
theorem d_Packet_triplet_28 : decode b_Packet_triplet 28 = .ok (.iload_n 2, 1) := by decide +kernel
theorem d_Packet_triplet_29 : decode b_Packet_triplet 29 = .ok (.invokestatic 38, 3) := by decide +kernel
theorem d_Packet_triplet_32 : decode b_Packet_triplet 32 = .ok (.istore_n 3, 1) := by decide +kernel
theorem d_Packet_triplet_33 : decode b_Packet_triplet 33 = .ok (.iload_n 2, 1) := by decide +kernel
theorem d_Packet_triplet_34 : decode b_Packet_triplet 34 = .ok (.invokestatic 34, 3) := by decide +kernel
theorem d_Packet_triplet_37 : decode b_Packet_triplet 37 = .ok (.ifCond .eq 12, 3) := by decide +kernel
theorem d_Packet_triplet_40 : decode b_Packet_triplet 40 = .ok (.iload_n 3, 1) := by decide +kernel
theorem d_Packet_triplet_41 : decode b_Packet_triplet 41 = .ok (.ifCond .ne 8, 3) := by decide +kernel
theorem d_Packet_triplet_44 : decode b_Packet_triplet 44 = .ok (.iload_n 2, 1) := by decide +kernel
theorem d_Packet_triplet_45 : decode b_Packet_triplet 45 = .ok (.invokestatic 41, 3) := by decide +kernel
theorem d_Packet_triplet_48 : decode b_Packet_triplet 48 = .ok (.ireturn, 1) := by decide +kernel
theorem d_Packet_triplet_49 : decode b_Packet_triplet 49 = .ok (.iload_n 2, 1) := by decide +kernel
theorem d_Packet_triplet_50 : decode b_Packet_triplet 50 = .ok (.invokestatic 34, 3) := by decide +kernel
theorem d_Packet_triplet_53 : decode b_Packet_triplet 53 = .ok (.ifCond .ne 9, 3) := by decide +kernel
theorem d_Packet_triplet_56 : decode b_Packet_triplet 56 = .ok (.iload_n 3, 1) := by decide +kernel
theorem d_Packet_triplet_57 : decode b_Packet_triplet 57 = .ok (.bipush 24, 2) := by decide +kernel
theorem d_Packet_triplet_59 : decode b_Packet_triplet 59 = .ok (.if_icmp .lt 15, 3) := by decide +kernel
theorem d_Packet_triplet_62 : decode b_Packet_triplet 62 = .ok (.aload_n 0, 1) := by decide +kernel
theorem d_Packet_triplet_63 : decode b_Packet_triplet 63 = .ok (.getfield 15, 3) := by decide +kernel
theorem d_Packet_triplet_66 : decode b_Packet_triplet 66 = .ok (.iconst 3, 1) := by decide +kernel
theorem d_Packet_triplet_67 : decode b_Packet_triplet 67 = .ok (.dup2, 1) := by decide +kernel
theorem d_Packet_triplet_68 : decode b_Packet_triplet 68 = .ok (.iaload, 1) := by decide +kernel
theorem d_Packet_triplet_69 : decode b_Packet_triplet 69 = .ok (.iconst 1, 1) := by decide +kernel
theorem d_Packet_triplet_70 : decode b_Packet_triplet 70 = .ok (.iadd, 1) := by decide +kernel
theorem d_Packet_triplet_71 : decode b_Packet_triplet 71 = .ok (.iastore, 1) := by decide +kernel
theorem d_Packet_triplet_72 : decode b_Packet_triplet 72 = .ok (.iconst (-1), 1) := by decide +kernel
theorem d_Packet_triplet_73 : decode b_Packet_triplet 73 = .ok (.ireturn, 1) := by decide +kernel
theorem d_Packet_triplet_74 : decode b_Packet_triplet 74 = .ok (.aload_n 0, 1) := by decide +kernel
theorem d_Packet_triplet_75 : decode b_Packet_triplet 75 = .ok (.getfield 15, 3) := by decide +kernel
theorem d_Packet_triplet_78 : decode b_Packet_triplet 78 = .ok (.iconst 2, 1) := by decide +kernel
theorem d_Packet_triplet_79 : decode b_Packet_triplet 79 = .ok (.dup2, 1) := by decide +kernel
theorem d_Packet_triplet_80 : decode b_Packet_triplet 80 = .ok (.iaload, 1) := by decide +kernel
theorem d_Packet_triplet_81 : decode b_Packet_triplet 81 = .ok (.iconst 1, 1) := by decide +kernel
theorem d_Packet_triplet_82 : decode b_Packet_triplet 82 = .ok (.iadd, 1) := by decide +kernel
theorem d_Packet_triplet_83 : decode b_Packet_triplet 83 = .ok (.iastore, 1) := by decide +kernel
theorem d_Packet_triplet_84 : decode b_Packet_triplet 84 = .ok (.iload_n 3, 1) := by decide +kernel
theorem d_Packet_triplet_85 : decode b_Packet_triplet 85 = .ok (.ifCond .ne 8, 3) := by decide +kernel
theorem d_Packet_triplet_88 : decode b_Packet_triplet 88 = .ok (.bipush 24, 2) := by decide +kernel
theorem d_Packet_triplet_90 : decode b_Packet_triplet 90 = .ok (.goto 4, 3) := by decide +kernel
theorem d_Packet_triplet_93 : decode b_Packet_triplet 93 = .ok (.iload_n 3, 1) := by decide +kernel
theorem d_Packet_triplet_94 : decode b_Packet_triplet 94 = .ok (.istore 4, 2) := by decide +kernel
theorem d_Packet_triplet_96 : decode b_Packet_triplet 96 = .ok (.iload_n 2, 1) := by decide +kernel
theorem d_Packet_triplet_97 : decode b_Packet_triplet 97 = .ok (.iconst 1, 1) := by decide +kernel
theorem d_Packet_triplet_98 : decode b_Packet_triplet 98 = .ok (.iload 4, 2) := by decide +kernel
theorem d_Packet_triplet_100 : decode b_Packet_triplet 100 = .ok (.iconst 1, 1) := by decide +kernel
theorem d_Packet_triplet_101 : decode b_Packet_triplet 101 = .ok (.isub, 1) := by decide +kernel
theorem d_Packet_triplet_102 : decode b_Packet_triplet 102 = .ok (.ishl, 1) := by decide +kernel
theorem d_Packet_triplet_103 : decode b_Packet_triplet 103 = .ok (.ixor, 1) := by decide +kernel
theorem d_Packet_triplet_104 : decode b_Packet_triplet 104 = .ok (.invokestatic 41, 3) := by decide +kernel
theorem d_Packet_triplet_107 : decode b_Packet_triplet 107 = .ok (.ireturn, 1) := by decide +kernel
theorem d_Packet_failingSum_0 : decode b_Packet_failingSum 0 = .ok (.iconst 0, 1) := by decide +kernel
theorem d_Packet_failingSum_1 : decode b_Packet_failingSum 1 = .ok (.istore_n 1, 1) := by decide +kernel
theorem d_Packet_failingSum_2 : decode b_Packet_failingSum 2 = .ok (.iconst 0, 1) := by decide +kernel
theorem d_Packet_failingSum_3 : decode b_Packet_failingSum 3 = .ok (.istore_n 2, 1) := by decide +kernel
theorem d_Packet_failingSum_4 : decode b_Packet_failingSum 4 = .ok (.iload_n 2, 1) := by decide +kernel
theorem d_Packet_failingSum_5 : decode b_Packet_failingSum 5 = .ok (.getstatic 44, 3) := by decide +kernel
theorem d_Packet_failingSum_8 : decode b_Packet_failingSum 8 = .ok (.arraylength, 1) := by decide +kernel
theorem d_Packet_failingSum_9 : decode b_Packet_failingSum 9 = .ok (.if_icmp .ge 28, 3) := by decide +kernel
theorem d_Packet_failingSum_12 : decode b_Packet_failingSum 12 = .ok (.iload_n 0, 1) := by decide +kernel
theorem d_Packet_failingSum_13 : decode b_Packet_failingSum 13 = .ok (.getstatic 44, 3) := by decide +kernel
theorem d_Packet_failingSum_16 : decode b_Packet_failingSum 16 = .ok (.iload_n 2, 1) := by decide +kernel
theorem d_Packet_failingSum_17 : decode b_Packet_failingSum 17 = .ok (.iaload, 1) := by decide +kernel
theorem d_Packet_failingSum_18 : decode b_Packet_failingSum 18 = .ok (.iand, 1) := by decide +kernel
theorem d_Packet_failingSum_19 : decode b_Packet_failingSum 19 = .ok (.invokestatic 34, 3) := by decide +kernel
theorem d_Packet_failingSum_22 : decode b_Packet_failingSum 22 = .ok (.ifCond .ne 9, 3) := by decide +kernel
theorem d_Packet_failingSum_25 : decode b_Packet_failingSum 25 = .ok (.iload_n 1, 1) := by decide +kernel
theorem d_Packet_failingSum_26 : decode b_Packet_failingSum 26 = .ok (.iconst 1, 1) := by decide +kernel
theorem d_Packet_failingSum_27 : decode b_Packet_failingSum 27 = .ok (.iload_n 2, 1) := by decide +kernel
theorem d_Packet_failingSum_28 : decode b_Packet_failingSum 28 = .ok (.ishl, 1) := by decide +kernel
theorem d_Packet_failingSum_29 : decode b_Packet_failingSum 29 = .ok (.iadd, 1) := by decide +kernel
theorem d_Packet_failingSum_30 : decode b_Packet_failingSum 30 = .ok (.istore_n 1, 1) := by decide +kernel
theorem d_Packet_failingSum_31 : decode b_Packet_failingSum 31 = .ok (.iinc 2 1, 3) := by decide +kernel
theorem d_Packet_failingSum_34 : decode b_Packet_failingSum 34 = .ok (.goto (-30), 3) := by decide +kernel
theorem d_Packet_failingSum_37 : decode b_Packet_failingSum 37 = .ok (.iload_n 1, 1) := by decide +kernel
theorem d_Packet_failingSum_38 : decode b_Packet_failingSum 38 = .ok (.ireturn, 1) := by decide +kernel
theorem d_Packet_bitsOf_0 : decode b_Packet_bitsOf 0 = .ok (.iload_n 0, 1) := by decide +kernel
theorem d_Packet_bitsOf_1 : decode b_Packet_bitsOf 1 = .ok (.iconst 2, 1) := by decide +kernel
theorem d_Packet_bitsOf_2 : decode b_Packet_bitsOf 2 = .ok (.ishr, 1) := by decide +kernel
theorem d_Packet_bitsOf_3 : decode b_Packet_bitsOf 3 = .ok (.iconst 1, 1) := by decide +kernel
theorem d_Packet_bitsOf_4 : decode b_Packet_bitsOf 4 = .ok (.iand, 1) := by decide +kernel
theorem d_Packet_bitsOf_5 : decode b_Packet_bitsOf 5 = .ok (.iload_n 0, 1) := by decide +kernel
theorem d_Packet_bitsOf_6 : decode b_Packet_bitsOf 6 = .ok (.iconst 4, 1) := by decide +kernel
theorem d_Packet_bitsOf_7 : decode b_Packet_bitsOf 7 = .ok (.ishr, 1) := by decide +kernel
theorem d_Packet_bitsOf_8 : decode b_Packet_bitsOf 8 = .ok (.bipush 7, 2) := by decide +kernel
theorem d_Packet_bitsOf_10 : decode b_Packet_bitsOf 10 = .ok (.iand, 1) := by decide +kernel
theorem d_Packet_bitsOf_11 : decode b_Packet_bitsOf 11 = .ok (.iconst 1, 1) := by decide +kernel
theorem d_Packet_bitsOf_12 : decode b_Packet_bitsOf 12 = .ok (.ishl, 1) := by decide +kernel
theorem d_Packet_bitsOf_13 : decode b_Packet_bitsOf 13 = .ok (.ior, 1) := by decide +kernel
theorem d_Packet_bitsOf_14 : decode b_Packet_bitsOf 14 = .ok (.iload_n 0, 1) := by decide +kernel
theorem d_Packet_bitsOf_15 : decode b_Packet_bitsOf 15 = .ok (.bipush 8, 2) := by decide +kernel
theorem d_Packet_bitsOf_17 : decode b_Packet_bitsOf 17 = .ok (.ishr, 1) := by decide +kernel
theorem d_Packet_bitsOf_18 : decode b_Packet_bitsOf 18 = .ok (.bipush 127, 2) := by decide +kernel
theorem d_Packet_bitsOf_20 : decode b_Packet_bitsOf 20 = .ok (.iand, 1) := by decide +kernel
theorem d_Packet_bitsOf_21 : decode b_Packet_bitsOf 21 = .ok (.iconst 4, 1) := by decide +kernel
theorem d_Packet_bitsOf_22 : decode b_Packet_bitsOf 22 = .ok (.ishl, 1) := by decide +kernel
theorem d_Packet_bitsOf_23 : decode b_Packet_bitsOf 23 = .ok (.ior, 1) := by decide +kernel
theorem d_Packet_bitsOf_24 : decode b_Packet_bitsOf 24 = .ok (.iload_n 0, 1) := by decide +kernel
theorem d_Packet_bitsOf_25 : decode b_Packet_bitsOf 25 = .ok (.bipush 16, 2) := by decide +kernel
theorem d_Packet_bitsOf_27 : decode b_Packet_bitsOf 27 = .ok (.ishr, 1) := by decide +kernel
theorem d_Packet_bitsOf_28 : decode b_Packet_bitsOf 28 = .ok (.bipush 127, 2) := by decide +kernel
theorem d_Packet_bitsOf_30 : decode b_Packet_bitsOf 30 = .ok (.iand, 1) := by decide +kernel
theorem d_Packet_bitsOf_31 : decode b_Packet_bitsOf 31 = .ok (.bipush 11, 2) := by decide +kernel
theorem d_Packet_bitsOf_33 : decode b_Packet_bitsOf 33 = .ok (.ishl, 1) := by decide +kernel
theorem d_Packet_bitsOf_34 : decode b_Packet_bitsOf 34 = .ok (.ior, 1) := by decide +kernel
theorem d_Packet_bitsOf_35 : decode b_Packet_bitsOf 35 = .ok (.ireturn, 1) := by decide +kernel
theorem d_Tuner_takeTriplet_0 : decode b_Tuner_takeTriplet 0 = .ok (.iload_n 2, 1) := by decide +kernel
theorem d_Tuner_takeTriplet_1 : decode b_Tuner_takeTriplet 1 = .ok (.bipush 63, 2) := by decide +kernel
theorem d_Tuner_takeTriplet_3 : decode b_Tuner_takeTriplet 3 = .ok (.iand, 1) := by decide +kernel
theorem d_Tuner_takeTriplet_4 : decode b_Tuner_takeTriplet 4 = .ok (.istore_n 3, 1) := by decide +kernel
theorem d_Tuner_takeTriplet_5 : decode b_Tuner_takeTriplet 5 = .ok (.iload_n 2, 1) := by decide +kernel
theorem d_Tuner_takeTriplet_6 : decode b_Tuner_takeTriplet 6 = .ok (.bipush 6, 2) := by decide +kernel
theorem d_Tuner_takeTriplet_8 : decode b_Tuner_takeTriplet 8 = .ok (.ishr, 1) := by decide +kernel
theorem d_Tuner_takeTriplet_9 : decode b_Tuner_takeTriplet 9 = .ok (.bipush 31, 2) := by decide +kernel
theorem d_Tuner_takeTriplet_11 : decode b_Tuner_takeTriplet 11 = .ok (.iand, 1) := by decide +kernel
theorem d_Tuner_takeTriplet_12 : decode b_Tuner_takeTriplet 12 = .ok (.istore 4, 2) := by decide +kernel
theorem d_Tuner_takeTriplet_14 : decode b_Tuner_takeTriplet 14 = .ok (.iload_n 2, 1) := by decide +kernel
theorem d_Tuner_takeTriplet_15 : decode b_Tuner_takeTriplet 15 = .ok (.bipush 11, 2) := by decide +kernel
theorem d_Tuner_takeTriplet_17 : decode b_Tuner_takeTriplet 17 = .ok (.ishr, 1) := by decide +kernel
theorem d_Tuner_takeTriplet_18 : decode b_Tuner_takeTriplet 18 = .ok (.bipush 127, 2) := by decide +kernel
theorem d_Tuner_takeTriplet_20 : decode b_Tuner_takeTriplet 20 = .ok (.iand, 1) := by decide +kernel
theorem d_Tuner_takeTriplet_21 : decode b_Tuner_takeTriplet 21 = .ok (.istore 5, 2) := by decide +kernel
theorem d_Tuner_takeTriplet_23 : decode b_Tuner_takeTriplet 23 = .ok (.iload_n 3, 1) := by decide +kernel
theorem d_Tuner_takeTriplet_24 : decode b_Tuner_takeTriplet 24 = .ok (.bipush 40, 2) := by decide +kernel
theorem d_Tuner_takeTriplet_26 : decode b_Tuner_takeTriplet 26 = .ok (.if_icmp .lt 20, 3) := by decide +kernel
theorem d_Tuner_takeTriplet_29 : decode b_Tuner_takeTriplet 29 = .ok (.iload_n 3, 1) := by decide +kernel
theorem d_Tuner_takeTriplet_30 : decode b_Tuner_takeTriplet 30 = .ok (.bipush 47, 2) := by decide +kernel
theorem d_Tuner_takeTriplet_32 : decode b_Tuner_takeTriplet 32 = .ok (.if_icmp .gt 14, 3) := by decide +kernel
theorem d_Tuner_takeTriplet_35 : decode b_Tuner_takeTriplet 35 = .ok (.iload 4, 2) := by decide +kernel
theorem d_Tuner_takeTriplet_37 : decode b_Tuner_takeTriplet 37 = .ok (.iconst 4, 1) := by decide +kernel
theorem d_Tuner_takeTriplet_38 : decode b_Tuner_takeTriplet 38 = .ok (.if_icmp .ne 8, 3) := by decide +kernel
theorem d_Tuner_takeTriplet_41 : decode b_Tuner_takeTriplet 41 = .ok (.iload_n 3, 1) := by decide +kernel
theorem d_Tuner_takeTriplet_42 : decode b_Tuner_takeTriplet 42 = .ok (.bipush 40, 2) := by decide +kernel
theorem d_Tuner_takeTriplet_44 : decode b_Tuner_takeTriplet 44 = .ok (.isub, 1) := by decide +kernel
theorem d_Tuner_takeTriplet_45 : decode b_Tuner_takeTriplet 45 = .ok (.ireturn, 1) := by decide +kernel
theorem d_Tuner_takeTriplet_46 : decode b_Tuner_takeTriplet 46 = .ok (.iload_n 3, 1) := by decide +kernel
theorem d_Tuner_takeTriplet_47 : decode b_Tuner_takeTriplet 47 = .ok (.bipush 20, 2) := by decide +kernel
theorem d_Tuner_takeTriplet_49 : decode b_Tuner_takeTriplet 49 = .ok (.if_icmp .ge 25, 3) := by decide +kernel
theorem d_Tuner_takeTriplet_52 : decode b_Tuner_takeTriplet 52 = .ok (.iload 4, 2) := by decide +kernel
theorem d_Tuner_takeTriplet_54 : decode b_Tuner_takeTriplet 54 = .ok (.bipush 15, 2) := by decide +kernel
theorem d_Tuner_takeTriplet_56 : decode b_Tuner_takeTriplet 56 = .ok (.if_icmp .ne 18, 3) := by decide +kernel
theorem d_Tuner_takeTriplet_59 : decode b_Tuner_takeTriplet 59 = .ok (.aload_n 0, 1) := by decide +kernel
theorem d_Tuner_takeTriplet_60 : decode b_Tuner_takeTriplet 60 = .ok (.iload_n 1, 1) := by decide +kernel
theorem d_Tuner_takeTriplet_61 : decode b_Tuner_takeTriplet 61 = .ok (.iload_n 3, 1) := by decide +kernel
theorem d_Tuner_takeTriplet_62 : decode b_Tuner_takeTriplet 62 = .ok (.iload 5, 2) := by decide +kernel
theorem d_Tuner_takeTriplet_64 : decode b_Tuner_takeTriplet 64 = .ok (.sipush 128, 3) := by decide +kernel
theorem d_Tuner_takeTriplet_67 : decode b_Tuner_takeTriplet 67 = .ok (.iadd, 1) := by decide +kernel
theorem d_Tuner_takeTriplet_68 : decode b_Tuner_takeTriplet 68 = .ok (.invokevirtual 131, 3) := by decide +kernel
theorem d_Tuner_takeTriplet_71 : decode b_Tuner_takeTriplet 71 = .ok (.goto 34, 3) := by decide +kernel
theorem d_Tuner_takeTriplet_74 : decode b_Tuner_takeTriplet 74 = .ok (.iload_n 3, 1) := by decide +kernel
theorem d_Tuner_takeTriplet_75 : decode b_Tuner_takeTriplet 75 = .ok (.bipush 20, 2) := by decide +kernel
theorem d_Tuner_takeTriplet_77 : decode b_Tuner_takeTriplet 77 = .ok (.if_icmp .ge 28, 3) := by decide +kernel
theorem d_Tuner_takeTriplet_80 : decode b_Tuner_takeTriplet 80 = .ok (.iload 4, 2) := by decide +kernel
theorem d_Tuner_takeTriplet_82 : decode b_Tuner_takeTriplet 82 = .ok (.bipush 16, 2) := by decide +kernel
theorem d_Tuner_takeTriplet_84 : decode b_Tuner_takeTriplet 84 = .ok (.if_icmp .lt 21, 3) := by decide +kernel
theorem d_Tuner_takeTriplet_87 : decode b_Tuner_takeTriplet 87 = .ok (.aload_n 0, 1) := by decide +kernel
theorem d_Tuner_takeTriplet_88 : decode b_Tuner_takeTriplet 88 = .ok (.iload_n 1, 1) := by decide +kernel
theorem d_Tuner_takeTriplet_89 : decode b_Tuner_takeTriplet 89 = .ok (.iload_n 3, 1) := by decide +kernel
theorem d_Tuner_takeTriplet_90 : decode b_Tuner_takeTriplet 90 = .ok (.iload 5, 2) := by decide +kernel
theorem d_Tuner_takeTriplet_92 : decode b_Tuner_takeTriplet 92 = .ok (.sipush 256, 3) := by decide +kernel
theorem d_Tuner_takeTriplet_95 : decode b_Tuner_takeTriplet 95 = .ok (.iload 4, 2) := by decide +kernel
theorem d_Tuner_takeTriplet_97 : decode b_Tuner_takeTriplet 97 = .ok (.bipush 15, 2) := by decide +kernel
theorem d_Tuner_takeTriplet_99 : decode b_Tuner_takeTriplet 99 = .ok (.isub, 1) := by decide +kernel
theorem d_Tuner_takeTriplet_100 : decode b_Tuner_takeTriplet 100 = .ok (.imul, 1) := by decide +kernel
theorem d_Tuner_takeTriplet_101 : decode b_Tuner_takeTriplet 101 = .ok (.iadd, 1) := by decide +kernel
theorem d_Tuner_takeTriplet_102 : decode b_Tuner_takeTriplet 102 = .ok (.invokevirtual 131, 3) := by decide +kernel
theorem d_Tuner_takeTriplet_105 : decode b_Tuner_takeTriplet 105 = .ok (.iload_n 1, 1) := by decide +kernel
theorem d_Tuner_takeTriplet_106 : decode b_Tuner_takeTriplet 106 = .ok (.ireturn, 1) := by decide +kernel
theorem d_Page_setOverlay_0 : decode b_Page_setOverlay 0 = .ok (.iload_n 1, 1) := by decide +kernel
theorem d_Page_setOverlay_1 : decode b_Page_setOverlay 1 = .ok (.iload_n 2, 1) := by decide +kernel
theorem d_Page_setOverlay_2 : decode b_Page_setOverlay 2 = .ok (.invokestatic 50, 3) := by decide +kernel
theorem d_Page_setOverlay_5 : decode b_Page_setOverlay 5 = .ok (.ifCond .eq 15, 3) := by decide +kernel
theorem d_Page_setOverlay_8 : decode b_Page_setOverlay 8 = .ok (.aload_n 0, 1) := by decide +kernel
theorem d_Page_setOverlay_9 : decode b_Page_setOverlay 9 = .ok (.getfield 15, 3) := by decide +kernel
theorem d_Page_setOverlay_12 : decode b_Page_setOverlay 12 = .ok (.iload_n 1, 1) := by decide +kernel
theorem d_Page_setOverlay_13 : decode b_Page_setOverlay 13 = .ok (.bipush 20, 2) := by decide +kernel
theorem d_Page_setOverlay_15 : decode b_Page_setOverlay 15 = .ok (.imul, 1) := by decide +kernel
theorem d_Page_setOverlay_16 : decode b_Page_setOverlay 16 = .ok (.iload_n 2, 1) := by decide +kernel
theorem d_Page_setOverlay_17 : decode b_Page_setOverlay 17 = .ok (.iadd, 1) := by decide +kernel
theorem d_Page_setOverlay_18 : decode b_Page_setOverlay 18 = .ok (.iload_n 3, 1) := by decide +kernel
theorem d_Page_setOverlay_19 : decode b_Page_setOverlay 19 = .ok (.iastore, 1) := by decide +kernel
theorem d_Page_setOverlay_20 : decode b_Page_setOverlay 20 = .ok (.return_, 1) := by decide +kernel
theorem d_Tuner_takeLinks_0 : decode b_Tuner_takeLinks 0 = .ok (.iconst 0, 1) := by decide +kernel
theorem d_Tuner_takeLinks_1 : decode b_Tuner_takeLinks 1 = .ok (.istore_n 3, 1) := by decide +kernel
theorem d_Tuner_takeLinks_2 : decode b_Tuner_takeLinks 2 = .ok (.iload_n 3, 1) := by decide +kernel
theorem d_Tuner_takeLinks_3 : decode b_Tuner_takeLinks 3 = .ok (.iconst 4, 1) := by decide +kernel
theorem d_Tuner_takeLinks_4 : decode b_Tuner_takeLinks 4 = .ok (.if_icmp .ge 95, 3) := by decide +kernel
theorem d_Tuner_takeLinks_7 : decode b_Tuner_takeLinks 7 = .ok (.aload_n 0, 1) := by decide +kernel
theorem d_Tuner_takeLinks_8 : decode b_Tuner_takeLinks 8 = .ok (.getfield 24, 3) := by decide +kernel
theorem d_Tuner_takeLinks_11 : decode b_Tuner_takeLinks 11 = .ok (.iconst 2, 1) := by decide +kernel
theorem d_Tuner_takeLinks_12 : decode b_Tuner_takeLinks 12 = .ok (.iconst 3, 1) := by decide +kernel
theorem d_Tuner_takeLinks_13 : decode b_Tuner_takeLinks 13 = .ok (.iload_n 3, 1) := by decide +kernel
theorem d_Tuner_takeLinks_14 : decode b_Tuner_takeLinks 14 = .ok (.imul, 1) := by decide +kernel
theorem d_Tuner_takeLinks_15 : decode b_Tuner_takeLinks 15 = .ok (.iadd, 1) := by decide +kernel
theorem d_Tuner_takeLinks_16 : decode b_Tuner_takeLinks 16 = .ok (.invokevirtual 46, 3) := by decide +kernel
theorem d_Tuner_takeLinks_19 : decode b_Tuner_takeLinks 19 = .ok (.istore 4, 2) := by decide +kernel
theorem d_Tuner_takeLinks_21 : decode b_Tuner_takeLinks 21 = .ok (.aload_n 0, 1) := by decide +kernel
theorem d_Tuner_takeLinks_22 : decode b_Tuner_takeLinks 22 = .ok (.getfield 24, 3) := by decide +kernel
theorem d_Tuner_takeLinks_25 : decode b_Tuner_takeLinks 25 = .ok (.iconst 3, 1) := by decide +kernel
theorem d_Tuner_takeLinks_26 : decode b_Tuner_takeLinks 26 = .ok (.iconst 3, 1) := by decide +kernel
theorem d_Tuner_takeLinks_27 : decode b_Tuner_takeLinks 27 = .ok (.iload_n 3, 1) := by decide +kernel
theorem d_Tuner_takeLinks_28 : decode b_Tuner_takeLinks 28 = .ok (.imul, 1) := by decide +kernel
theorem d_Tuner_takeLinks_29 : decode b_Tuner_takeLinks 29 = .ok (.iadd, 1) := by decide +kernel
theorem d_Tuner_takeLinks_30 : decode b_Tuner_takeLinks 30 = .ok (.invokevirtual 46, 3) := by decide +kernel
theorem d_Tuner_takeLinks_33 : decode b_Tuner_takeLinks 33 = .ok (.istore 5, 2) := by decide +kernel
theorem d_Tuner_takeLinks_35 : decode b_Tuner_takeLinks 35 = .ok (.aload_n 0, 1) := by decide +kernel
theorem d_Tuner_takeLinks_36 : decode b_Tuner_takeLinks 36 = .ok (.getfield 24, 3) := by decide +kernel
theorem d_Tuner_takeLinks_39 : decode b_Tuner_takeLinks 39 = .ok (.iconst 4, 1) := by decide +kernel
theorem d_Tuner_takeLinks_40 : decode b_Tuner_takeLinks 40 = .ok (.iconst 3, 1) := by decide +kernel
theorem d_Tuner_takeLinks_41 : decode b_Tuner_takeLinks 41 = .ok (.iload_n 3, 1) := by decide +kernel
theorem d_Tuner_takeLinks_42 : decode b_Tuner_takeLinks 42 = .ok (.imul, 1) := by decide +kernel
theorem d_Tuner_takeLinks_43 : decode b_Tuner_takeLinks 43 = .ok (.iadd, 1) := by decide +kernel
theorem d_Tuner_takeLinks_44 : decode b_Tuner_takeLinks 44 = .ok (.invokevirtual 46, 3) := by decide +kernel
theorem d_Tuner_takeLinks_47 : decode b_Tuner_takeLinks 47 = .ok (.istore 6, 2) := by decide +kernel
theorem d_Tuner_takeLinks_49 : decode b_Tuner_takeLinks 49 = .ok (.iload 4, 2) := by decide +kernel
theorem d_Tuner_takeLinks_51 : decode b_Tuner_takeLinks 51 = .ok (.iconst (-1), 1) := by decide +kernel
theorem d_Tuner_takeLinks_52 : decode b_Tuner_takeLinks 52 = .ok (.if_icmp .eq 41, 3) := by decide +kernel
theorem d_Tuner_takeLinks_55 : decode b_Tuner_takeLinks 55 = .ok (.iload 5, 2) := by decide +kernel
theorem d_Tuner_takeLinks_57 : decode b_Tuner_takeLinks 57 = .ok (.iconst (-1), 1) := by decide +kernel
theorem d_Tuner_takeLinks_58 : decode b_Tuner_takeLinks 58 = .ok (.if_icmp .eq 35, 3) := by decide +kernel
theorem d_Tuner_takeLinks_61 : decode b_Tuner_takeLinks 61 = .ok (.iload 6, 2) := by decide +kernel
theorem d_Tuner_takeLinks_63 : decode b_Tuner_takeLinks 63 = .ok (.iconst (-1), 1) := by decide +kernel
theorem d_Tuner_takeLinks_64 : decode b_Tuner_takeLinks 64 = .ok (.if_icmp .eq 29, 3) := by decide +kernel
theorem d_Tuner_takeLinks_67 : decode b_Tuner_takeLinks 67 = .ok (.aload_n 1, 1) := by decide +kernel
theorem d_Tuner_takeLinks_68 : decode b_Tuner_takeLinks 68 = .ok (.getfield 134, 3) := by decide +kernel
theorem d_Tuner_takeLinks_71 : decode b_Tuner_takeLinks 71 = .ok (.iload_n 3, 1) := by decide +kernel
theorem d_Tuner_takeLinks_72 : decode b_Tuner_takeLinks 72 = .ok (.sipush 256, 3) := by decide +kernel
theorem d_Tuner_takeLinks_75 : decode b_Tuner_takeLinks 75 = .ok (.iload_n 2, 1) := by decide +kernel
theorem d_Tuner_takeLinks_76 : decode b_Tuner_takeLinks 76 = .ok (.iload 6, 2) := by decide +kernel
theorem d_Tuner_takeLinks_78 : decode b_Tuner_takeLinks 78 = .ok (.ixor, 1) := by decide +kernel
theorem d_Tuner_takeLinks_79 : decode b_Tuner_takeLinks 79 = .ok (.bipush 8, 2) := by decide +kernel
theorem d_Tuner_takeLinks_81 : decode b_Tuner_takeLinks 81 = .ok (.irem, 1) := by decide +kernel
theorem d_Tuner_takeLinks_82 : decode b_Tuner_takeLinks 82 = .ok (.imul, 1) := by decide +kernel
theorem d_Tuner_takeLinks_83 : decode b_Tuner_takeLinks 83 = .ok (.bipush 16, 2) := by decide +kernel
theorem d_Tuner_takeLinks_85 : decode b_Tuner_takeLinks 85 = .ok (.iload 5, 2) := by decide +kernel
theorem d_Tuner_takeLinks_87 : decode b_Tuner_takeLinks 87 = .ok (.imul, 1) := by decide +kernel
theorem d_Tuner_takeLinks_88 : decode b_Tuner_takeLinks 88 = .ok (.iadd, 1) := by decide +kernel
theorem d_Tuner_takeLinks_89 : decode b_Tuner_takeLinks 89 = .ok (.iload 4, 2) := by decide +kernel
theorem d_Tuner_takeLinks_91 : decode b_Tuner_takeLinks 91 = .ok (.iadd, 1) := by decide +kernel
theorem d_Tuner_takeLinks_92 : decode b_Tuner_takeLinks 92 = .ok (.iastore, 1) := by decide +kernel
theorem d_Tuner_takeLinks_93 : decode b_Tuner_takeLinks 93 = .ok (.iinc 3 1, 3) := by decide +kernel
theorem d_Tuner_takeLinks_96 : decode b_Tuner_takeLinks 96 = .ok (.goto (-94), 3) := by decide +kernel
theorem d_Tuner_takeLinks_99 : decode b_Tuner_takeLinks 99 = .ok (.return_, 1) := by decide +kernel
end
section
theorem d_Packet_empty_0 : decode b_Packet_empty 0 = .ok (.aload_n 0, 1) := by decide +kernel
theorem d_Packet_empty_1 : decode b_Packet_empty 1 = .ok (.getfield 18, 3) := by decide +kernel
theorem d_Packet_empty_4 : decode b_Packet_empty 4 = .ok (.istore_n 1, 1) := by decide +kernel
theorem d_Packet_empty_5 : decode b_Packet_empty 5 = .ok (.aload_n 0, 1) := by decide +kernel
theorem d_Packet_empty_6 : decode b_Packet_empty 6 = .ok (.iconst 0, 1) := by decide +kernel
theorem d_Packet_empty_7 : decode b_Packet_empty 7 = .ok (.putfield 18, 3) := by decide +kernel
theorem d_Packet_empty_10 : decode b_Packet_empty 10 = .ok (.iload_n 1, 1) := by decide +kernel
theorem d_Packet_empty_11 : decode b_Packet_empty 11 = .ok (.ireturn, 1) := by decide +kernel
theorem d_Recv_reset_0 : decode b_Recv_reset 0 = .ok (.aload_n 0, 1) := by decide +kernel
theorem d_Recv_reset_1 : decode b_Recv_reset 1 = .ok (.getfield 18, 3) := by decide +kernel
theorem d_Recv_reset_4 : decode b_Recv_reset 4 = .ok (.invokevirtual 81, 3) := by decide +kernel
theorem d_Recv_reset_7 : decode b_Recv_reset 7 = .ok (.ireturn, 1) := by decide +kernel
theorem d_Recv_key_0 : decode b_Recv_key 0 = .ok (.iload_n 1, 1) := by decide +kernel
theorem d_Recv_key_1 : decode b_Recv_key 1 = .ok (.ifCond .lt 9, 3) := by decide +kernel
theorem d_Recv_key_4 : decode b_Recv_key 4 = .ok (.iload_n 1, 1) := by decide +kernel
theorem d_Recv_key_5 : decode b_Recv_key 5 = .ok (.bipush 15, 2) := by decide +kernel
theorem d_Recv_key_7 : decode b_Recv_key 7 = .ok (.if_icmp .le 5, 3) := by decide +kernel
theorem d_Recv_key_10 : decode b_Recv_key 10 = .ok (.iconst 0, 1) := by decide +kernel
theorem d_Recv_key_11 : decode b_Recv_key 11 = .ok (.ireturn, 1) := by decide +kernel
theorem d_Recv_key_12 : decode b_Recv_key 12 = .ok (.iload_n 1, 1) := by decide +kernel
theorem d_Recv_key_13 : decode b_Recv_key 13 = .ok (.bipush 9, 2) := by decide +kernel
theorem d_Recv_key_15 : decode b_Recv_key 15 = .ok (.if_icmp .gt 14, 3) := by decide +kernel
theorem d_Recv_key_18 : decode b_Recv_key 18 = .ok (.aload_n 0, 1) := by decide +kernel
theorem d_Recv_key_19 : decode b_Recv_key 19 = .ok (.getfield 45, 3) := by decide +kernel
theorem d_Recv_key_22 : decode b_Recv_key 22 = .ok (.iload_n 1, 1) := by decide +kernel
theorem d_Recv_key_23 : decode b_Recv_key 23 = .ok (.invokevirtual 89, 3) := by decide +kernel
theorem d_Recv_key_26 : decode b_Recv_key 26 = .ok (.goto 11, 3) := by decide +kernel
theorem d_Recv_key_29 : decode b_Recv_key 29 = .ok (.aload_n 0, 1) := by decide +kernel
theorem d_Recv_key_30 : decode b_Recv_key 30 = .ok (.getfield 45, 3) := by decide +kernel
theorem d_Recv_key_33 : decode b_Recv_key 33 = .ok (.iload_n 1, 1) := by decide +kernel
theorem d_Recv_key_34 : decode b_Recv_key 34 = .ok (.invokevirtual 93, 3) := by decide +kernel
theorem d_Recv_key_37 : decode b_Recv_key 37 = .ok (.ireturn, 1) := by decide +kernel
theorem d_Remote_pressDigit_0 : decode b_Remote_pressDigit 0 = .ok (.aload_n 0, 1) := by decide +kernel
theorem d_Remote_pressDigit_1 : decode b_Remote_pressDigit 1 = .ok (.getfield 36, 3) := by decide +kernel
theorem d_Remote_pressDigit_4 : decode b_Remote_pressDigit 4 = .ok (.lookupswitch 65 #[(0, 28), (1, 53)], 28) := by decide +kernel
theorem d_Remote_pressDigit_32 : decode b_Remote_pressDigit 32 = .ok (.iload_n 1, 1) := by decide +kernel
theorem d_Remote_pressDigit_33 : decode b_Remote_pressDigit 33 = .ok (.iconst 1, 1) := by decide +kernel
theorem d_Remote_pressDigit_34 : decode b_Remote_pressDigit 34 = .ok (.if_icmp .lt 9, 3) := by decide +kernel
theorem d_Remote_pressDigit_37 : decode b_Remote_pressDigit 37 = .ok (.iload_n 1, 1) := by decide +kernel
theorem d_Remote_pressDigit_38 : decode b_Remote_pressDigit 38 = .ok (.bipush 8, 2) := by decide +kernel
theorem d_Remote_pressDigit_40 : decode b_Remote_pressDigit 40 = .ok (.if_icmp .le 5, 3) := by decide +kernel
theorem d_Remote_pressDigit_43 : decode b_Remote_pressDigit 43 = .ok (.iconst 0, 1) := by decide +kernel
theorem d_Remote_pressDigit_44 : decode b_Remote_pressDigit 44 = .ok (.ireturn, 1) := by decide +kernel
theorem d_Remote_pressDigit_45 : decode b_Remote_pressDigit 45 = .ok (.aload_n 0, 1) := by decide +kernel
theorem d_Remote_pressDigit_46 : decode b_Remote_pressDigit 46 = .ok (.iload_n 1, 1) := by decide +kernel
theorem d_Remote_pressDigit_47 : decode b_Remote_pressDigit 47 = .ok (.putfield 39, 3) := by decide +kernel
theorem d_Remote_pressDigit_50 : decode b_Remote_pressDigit 50 = .ok (.aload_n 0, 1) := by decide +kernel
theorem d_Remote_pressDigit_51 : decode b_Remote_pressDigit 51 = .ok (.iconst 1, 1) := by decide +kernel
theorem d_Remote_pressDigit_52 : decode b_Remote_pressDigit 52 = .ok (.putfield 36, 3) := by decide +kernel
theorem d_Remote_pressDigit_55 : decode b_Remote_pressDigit 55 = .ok (.iconst 1, 1) := by decide +kernel
theorem d_Remote_pressDigit_56 : decode b_Remote_pressDigit 56 = .ok (.ireturn, 1) := by decide +kernel
theorem d_Remote_pressDigit_57 : decode b_Remote_pressDigit 57 = .ok (.aload_n 0, 1) := by decide +kernel
theorem d_Remote_pressDigit_58 : decode b_Remote_pressDigit 58 = .ok (.iload_n 1, 1) := by decide +kernel
theorem d_Remote_pressDigit_59 : decode b_Remote_pressDigit 59 = .ok (.putfield 42, 3) := by decide +kernel
theorem d_Remote_pressDigit_62 : decode b_Remote_pressDigit 62 = .ok (.aload_n 0, 1) := by decide +kernel
theorem d_Remote_pressDigit_63 : decode b_Remote_pressDigit 63 = .ok (.iconst 2, 1) := by decide +kernel
theorem d_Remote_pressDigit_64 : decode b_Remote_pressDigit 64 = .ok (.putfield 36, 3) := by decide +kernel
theorem d_Remote_pressDigit_67 : decode b_Remote_pressDigit 67 = .ok (.iconst 1, 1) := by decide +kernel
theorem d_Remote_pressDigit_68 : decode b_Remote_pressDigit 68 = .ok (.ireturn, 1) := by decide +kernel
theorem d_Remote_pressDigit_69 : decode b_Remote_pressDigit 69 = .ok (.aload_n 0, 1) := by decide +kernel
theorem d_Remote_pressDigit_70 : decode b_Remote_pressDigit 70 = .ok (.iconst 0, 1) := by decide +kernel
theorem d_Remote_pressDigit_71 : decode b_Remote_pressDigit 71 = .ok (.putfield 36, 3) := by decide +kernel
theorem d_Remote_pressDigit_74 : decode b_Remote_pressDigit 74 = .ok (.aload_n 0, 1) := by decide +kernel
theorem d_Remote_pressDigit_75 : decode b_Remote_pressDigit 75 = .ok (.sipush 256, 3) := by decide +kernel
theorem d_Remote_pressDigit_78 : decode b_Remote_pressDigit 78 = .ok (.aload_n 0, 1) := by decide +kernel
theorem d_Remote_pressDigit_79 : decode b_Remote_pressDigit 79 = .ok (.getfield 39, 3) := by decide +kernel
theorem d_Remote_pressDigit_82 : decode b_Remote_pressDigit 82 = .ok (.bipush 8, 2) := by decide +kernel
theorem d_Remote_pressDigit_84 : decode b_Remote_pressDigit 84 = .ok (.irem, 1) := by decide +kernel
theorem d_Remote_pressDigit_85 : decode b_Remote_pressDigit 85 = .ok (.imul, 1) := by decide +kernel
theorem d_Remote_pressDigit_86 : decode b_Remote_pressDigit 86 = .ok (.bipush 16, 2) := by decide +kernel
theorem d_Remote_pressDigit_88 : decode b_Remote_pressDigit 88 = .ok (.aload_n 0, 1) := by decide +kernel
theorem d_Remote_pressDigit_89 : decode b_Remote_pressDigit 89 = .ok (.getfield 42, 3) := by decide +kernel
theorem d_Remote_pressDigit_92 : decode b_Remote_pressDigit 92 = .ok (.imul, 1) := by decide +kernel
theorem d_Remote_pressDigit_93 : decode b_Remote_pressDigit 93 = .ok (.iadd, 1) := by decide +kernel
theorem d_Remote_pressDigit_94 : decode b_Remote_pressDigit 94 = .ok (.iload_n 1, 1) := by decide +kernel
theorem d_Remote_pressDigit_95 : decode b_Remote_pressDigit 95 = .ok (.iadd, 1) := by decide +kernel
theorem d_Remote_pressDigit_96 : decode b_Remote_pressDigit 96 = .ok (.invokevirtual 45, 3) := by decide +kernel
theorem d_Remote_pressDigit_99 : decode b_Remote_pressDigit 99 = .ok (.iconst 1, 1) := by decide +kernel
theorem d_Remote_pressDigit_100 : decode b_Remote_pressDigit 100 = .ok (.ireturn, 1) := by decide +kernel
theorem d_Remote_want_0 : decode b_Remote_want 0 = .ok (.aload_n 0, 1) := by decide +kernel
theorem d_Remote_want_1 : decode b_Remote_want 1 = .ok (.iload_n 1, 1) := by decide +kernel
theorem d_Remote_want_2 : decode b_Remote_want 2 = .ok (.putfield 18, 3) := by decide +kernel
theorem d_Remote_want_5 : decode b_Remote_want 5 = .ok (.aload_n 0, 1) := by decide +kernel
theorem d_Remote_want_6 : decode b_Remote_want 6 = .ok (.getfield 12, 3) := by decide +kernel
theorem d_Remote_want_9 : decode b_Remote_want 9 = .ok (.iconst 0, 1) := by decide +kernel
theorem d_Remote_want_10 : decode b_Remote_want 10 = .ok (.putfield 26, 3) := by decide +kernel
theorem d_Remote_want_13 : decode b_Remote_want 13 = .ok (.aload_n 0, 1) := by decide +kernel
theorem d_Remote_want_14 : decode b_Remote_want 14 = .ok (.iconst 0, 1) := by decide +kernel
theorem d_Remote_want_15 : decode b_Remote_want 15 = .ok (.putfield 53, 3) := by decide +kernel
theorem d_Remote_want_18 : decode b_Remote_want 18 = .ok (.return_, 1) := by decide +kernel
theorem d_Remote_pressCommand_0 : decode b_Remote_pressCommand 0 = .ok (.aload_n 0, 1) := by decide +kernel
theorem d_Remote_pressCommand_1 : decode b_Remote_pressCommand 1 = .ok (.iconst 0, 1) := by decide +kernel
theorem d_Remote_pressCommand_2 : decode b_Remote_pressCommand 2 = .ok (.putfield 36, 3) := by decide +kernel
theorem d_Remote_pressCommand_5 : decode b_Remote_pressCommand 5 = .ok (.iload_n 1, 1) := by decide +kernel
theorem d_Remote_pressCommand_6 : decode b_Remote_pressCommand 6 = .ok (.bipush 14, 2) := by decide +kernel
theorem d_Remote_pressCommand_8 : decode b_Remote_pressCommand 8 = .ok (.if_icmp .ne 8, 3) := by decide +kernel
theorem d_Remote_pressCommand_11 : decode b_Remote_pressCommand 11 = .ok (.aload_n 0, 1) := by decide +kernel
theorem d_Remote_pressCommand_12 : decode b_Remote_pressCommand 12 = .ok (.invokevirtual 49, 3) := by decide +kernel
theorem d_Remote_pressCommand_15 : decode b_Remote_pressCommand 15 = .ok (.ireturn, 1) := by decide +kernel
theorem d_Remote_pressCommand_16 : decode b_Remote_pressCommand 16 = .ok (.iload_n 1, 1) := by decide +kernel
theorem d_Remote_pressCommand_17 : decode b_Remote_pressCommand 17 = .ok (.bipush 15, 2) := by decide +kernel
theorem d_Remote_pressCommand_19 : decode b_Remote_pressCommand 19 = .ok (.if_icmp .ne 21, 3) := by decide +kernel
theorem d_Remote_pressCommand_22 : decode b_Remote_pressCommand 22 = .ok (.aload_n 0, 1) := by decide +kernel
theorem d_Remote_pressCommand_23 : decode b_Remote_pressCommand 23 = .ok (.aload_n 0, 1) := by decide +kernel
theorem d_Remote_pressCommand_24 : decode b_Remote_pressCommand 24 = .ok (.getfield 53, 3) := by decide +kernel
theorem d_Remote_pressCommand_27 : decode b_Remote_pressCommand 27 = .ok (.ifCond .ne 7, 3) := by decide +kernel
theorem d_Remote_pressCommand_30 : decode b_Remote_pressCommand 30 = .ok (.iconst 1, 1) := by decide +kernel
theorem d_Remote_pressCommand_31 : decode b_Remote_pressCommand 31 = .ok (.goto 4, 3) := by decide +kernel
theorem d_Remote_pressCommand_34 : decode b_Remote_pressCommand 34 = .ok (.iconst 0, 1) := by decide +kernel
theorem d_Remote_pressCommand_35 : decode b_Remote_pressCommand 35 = .ok (.putfield 53, 3) := by decide +kernel
theorem d_Remote_pressCommand_38 : decode b_Remote_pressCommand 38 = .ok (.iconst 1, 1) := by decide +kernel
theorem d_Remote_pressCommand_39 : decode b_Remote_pressCommand 39 = .ok (.ireturn, 1) := by decide +kernel
theorem d_Remote_pressCommand_40 : decode b_Remote_pressCommand 40 = .ok (.aload_n 0, 1) := by decide +kernel
theorem d_Remote_pressCommand_41 : decode b_Remote_pressCommand 41 = .ok (.iload_n 1, 1) := by decide +kernel
theorem d_Remote_pressCommand_42 : decode b_Remote_pressCommand 42 = .ok (.bipush 10, 2) := by decide +kernel
theorem d_Remote_pressCommand_44 : decode b_Remote_pressCommand 44 = .ok (.isub, 1) := by decide +kernel
theorem d_Remote_pressCommand_45 : decode b_Remote_pressCommand 45 = .ok (.invokevirtual 56, 3) := by decide +kernel
theorem d_Remote_pressCommand_48 : decode b_Remote_pressCommand 48 = .ok (.ireturn, 1) := by decide +kernel
theorem d_Remote_turnHeld_0 : decode b_Remote_turnHeld 0 = .ok (.aload_n 0, 1) := by decide +kernel
theorem d_Remote_turnHeld_1 : decode b_Remote_turnHeld 1 = .ok (.getfield 12, 3) := by decide +kernel
theorem d_Remote_turnHeld_4 : decode b_Remote_turnHeld 4 = .ok (.getfield 26, 3) := by decide +kernel
theorem d_Remote_turnHeld_7 : decode b_Remote_turnHeld 7 = .ok (.ifCond .eq 13, 3) := by decide +kernel
theorem d_Remote_turnHeld_10 : decode b_Remote_turnHeld 10 = .ok (.aload_n 0, 1) := by decide +kernel
theorem d_Remote_turnHeld_11 : decode b_Remote_turnHeld 11 = .ok (.getfield 12, 3) := by decide +kernel
theorem d_Remote_turnHeld_14 : decode b_Remote_turnHeld 14 = .ok (.iconst 0, 1) := by decide +kernel
theorem d_Remote_turnHeld_15 : decode b_Remote_turnHeld 15 = .ok (.putfield 26, 3) := by decide +kernel
theorem d_Remote_turnHeld_18 : decode b_Remote_turnHeld 18 = .ok (.iconst 1, 1) := by decide +kernel
theorem d_Remote_turnHeld_19 : decode b_Remote_turnHeld 19 = .ok (.ireturn, 1) := by decide +kernel
theorem d_Remote_turnHeld_20 : decode b_Remote_turnHeld 20 = .ok (.aload_n 0, 1) := by decide +kernel
theorem d_Remote_turnHeld_21 : decode b_Remote_turnHeld 21 = .ok (.invokevirtual 60, 3) := by decide +kernel
theorem d_Remote_turnHeld_24 : decode b_Remote_turnHeld 24 = .ok (.astore_n 1, 1) := by decide +kernel
theorem d_Remote_turnHeld_25 : decode b_Remote_turnHeld 25 = .ok (.aload_n 1, 1) := by decide +kernel
theorem d_Remote_turnHeld_26 : decode b_Remote_turnHeld 26 = .ok (.ifnonnull 5, 3) := by decide +kernel
theorem d_Remote_turnHeld_29 : decode b_Remote_turnHeld 29 = .ok (.iconst 0, 1) := by decide +kernel
theorem d_Remote_turnHeld_30 : decode b_Remote_turnHeld 30 = .ok (.ireturn, 1) := by decide +kernel
theorem d_Remote_turnHeld_31 : decode b_Remote_turnHeld 31 = .ok (.aload_n 0, 1) := by decide +kernel
theorem d_Remote_turnHeld_32 : decode b_Remote_turnHeld 32 = .ok (.getfield 12, 3) := by decide +kernel
theorem d_Remote_turnHeld_35 : decode b_Remote_turnHeld 35 = .ok (.aload_n 1, 1) := by decide +kernel
theorem d_Remote_turnHeld_36 : decode b_Remote_turnHeld 36 = .ok (.invokevirtual 68, 3) := by decide +kernel
theorem d_Remote_turnHeld_39 : decode b_Remote_turnHeld 39 = .ok (.iconst 1, 1) := by decide +kernel
theorem d_Remote_turnHeld_40 : decode b_Remote_turnHeld 40 = .ok (.ireturn, 1) := by decide +kernel
theorem d_Remote_pageShown_0 : decode b_Remote_pageShown 0 = .ok (.aload_n 0, 1) := by decide +kernel
theorem d_Remote_pageShown_1 : decode b_Remote_pageShown 1 = .ok (.getfield 12, 3) := by decide +kernel
theorem d_Remote_pageShown_4 : decode b_Remote_pageShown 4 = .ok (.getfield 26, 3) := by decide +kernel
theorem d_Remote_pageShown_7 : decode b_Remote_pageShown 7 = .ok (.ifCond .eq 10, 3) := by decide +kernel
theorem d_Remote_pageShown_10 : decode b_Remote_pageShown 10 = .ok (.aload_n 0, 1) := by decide +kernel
theorem d_Remote_pageShown_11 : decode b_Remote_pageShown 11 = .ok (.getfield 12, 3) := by decide +kernel
theorem d_Remote_pageShown_14 : decode b_Remote_pageShown 14 = .ok (.goto 14, 3) := by decide +kernel
theorem d_Remote_pageShown_17 : decode b_Remote_pageShown 17 = .ok (.aload_n 0, 1) := by decide +kernel
theorem d_Remote_pageShown_18 : decode b_Remote_pageShown 18 = .ok (.getfield 22, 3) := by decide +kernel
theorem d_Remote_pageShown_21 : decode b_Remote_pageShown 21 = .ok (.aload_n 0, 1) := by decide +kernel
theorem d_Remote_pageShown_22 : decode b_Remote_pageShown 22 = .ok (.getfield 18, 3) := by decide +kernel
theorem d_Remote_pageShown_25 : decode b_Remote_pageShown 25 = .ok (.invokevirtual 30, 3) := by decide +kernel
theorem d_Remote_pageShown_28 : decode b_Remote_pageShown 28 = .ok (.areturn, 1) := by decide +kernel
theorem d_Remote_followLink_0 : decode b_Remote_followLink 0 = .ok (.aload_n 0, 1) := by decide +kernel
theorem d_Remote_followLink_1 : decode b_Remote_followLink 1 = .ok (.invokevirtual 60, 3) := by decide +kernel
theorem d_Remote_followLink_4 : decode b_Remote_followLink 4 = .ok (.astore_n 2, 1) := by decide +kernel
theorem d_Remote_followLink_5 : decode b_Remote_followLink 5 = .ok (.aload_n 2, 1) := by decide +kernel
theorem d_Remote_followLink_6 : decode b_Remote_followLink 6 = .ok (.ifnull 12, 3) := by decide +kernel
theorem d_Remote_followLink_9 : decode b_Remote_followLink 9 = .ok (.aload_n 2, 1) := by decide +kernel
theorem d_Remote_followLink_10 : decode b_Remote_followLink 10 = .ok (.iload_n 1, 1) := by decide +kernel
theorem d_Remote_followLink_11 : decode b_Remote_followLink 11 = .ok (.invokevirtual 64, 3) := by decide +kernel
theorem d_Remote_followLink_14 : decode b_Remote_followLink 14 = .ok (.iconst (-1), 1) := by decide +kernel
theorem d_Remote_followLink_15 : decode b_Remote_followLink 15 = .ok (.if_icmp .ne 5, 3) := by decide +kernel
theorem d_Remote_followLink_18 : decode b_Remote_followLink 18 = .ok (.iconst 0, 1) := by decide +kernel
theorem d_Remote_followLink_19 : decode b_Remote_followLink 19 = .ok (.ireturn, 1) := by decide +kernel
theorem d_Remote_followLink_20 : decode b_Remote_followLink 20 = .ok (.aload_n 0, 1) := by decide +kernel
theorem d_Remote_followLink_21 : decode b_Remote_followLink 21 = .ok (.aload_n 2, 1) := by decide +kernel
theorem d_Remote_followLink_22 : decode b_Remote_followLink 22 = .ok (.iload_n 1, 1) := by decide +kernel
theorem d_Remote_followLink_23 : decode b_Remote_followLink 23 = .ok (.invokevirtual 64, 3) := by decide +kernel
theorem d_Remote_followLink_26 : decode b_Remote_followLink 26 = .ok (.invokevirtual 45, 3) := by decide +kernel
theorem d_Remote_followLink_29 : decode b_Remote_followLink 29 = .ok (.iconst 1, 1) := by decide +kernel
theorem d_Remote_followLink_30 : decode b_Remote_followLink 30 = .ok (.ireturn, 1) := by decide +kernel
theorem d_Page_link_0 : decode b_Page_link 0 = .ok (.iload_n 1, 1) := by decide +kernel
theorem d_Page_link_1 : decode b_Page_link 1 = .ok (.ifCond .lt 8, 3) := by decide +kernel
theorem d_Page_link_4 : decode b_Page_link 4 = .ok (.iload_n 1, 1) := by decide +kernel
theorem d_Page_link_5 : decode b_Page_link 5 = .ok (.iconst 4, 1) := by decide +kernel
theorem d_Page_link_6 : decode b_Page_link 6 = .ok (.if_icmp .lt 7, 3) := by decide +kernel
theorem d_Page_link_9 : decode b_Page_link 9 = .ok (.iconst (-1), 1) := by decide +kernel
theorem d_Page_link_10 : decode b_Page_link 10 = .ok (.goto 9, 3) := by decide +kernel
theorem d_Page_link_13 : decode b_Page_link 13 = .ok (.aload_n 0, 1) := by decide +kernel
theorem d_Page_link_14 : decode b_Page_link 14 = .ok (.getfield 18, 3) := by decide +kernel
theorem d_Page_link_17 : decode b_Page_link 17 = .ok (.iload_n 1, 1) := by decide +kernel
theorem d_Page_link_18 : decode b_Page_link 18 = .ok (.iaload, 1) := by decide +kernel
theorem d_Page_link_19 : decode b_Page_link 19 = .ok (.ireturn, 1) := by decide +kernel
theorem d_Recv_tick_0 : decode b_Recv_tick 0 = .ok (.aload_n 0, 1) := by decide +kernel
theorem d_Recv_tick_1 : decode b_Recv_tick 1 = .ok (.getfield 66, 3) := by decide +kernel
theorem d_Recv_tick_4 : decode b_Recv_tick 4 = .ok (.aload_n 0, 1) := by decide +kernel
theorem d_Recv_tick_5 : decode b_Recv_tick 5 = .ok (.getfield 66, 3) := by decide +kernel
theorem d_Recv_tick_8 : decode b_Recv_tick 8 = .ok (.getfield 96, 3) := by decide +kernel
theorem d_Recv_tick_11 : decode b_Recv_tick 11 = .ok (.ifCond .ne 7, 3) := by decide +kernel
theorem d_Recv_tick_14 : decode b_Recv_tick 14 = .ok (.iconst 1, 1) := by decide +kernel
theorem d_Recv_tick_15 : decode b_Recv_tick 15 = .ok (.goto 4, 3) := by decide +kernel
theorem d_Recv_tick_18 : decode b_Recv_tick 18 = .ok (.iconst 0, 1) := by decide +kernel
theorem d_Recv_tick_19 : decode b_Recv_tick 19 = .ok (.putfield 96, 3) := by decide +kernel
theorem d_Recv_tick_22 : decode b_Recv_tick 22 = .ok (.aload_n 0, 1) := by decide +kernel
theorem d_Recv_tick_23 : decode b_Recv_tick 23 = .ok (.getfield 66, 3) := by decide +kernel
theorem d_Recv_tick_26 : decode b_Recv_tick 26 = .ok (.getfield 96, 3) := by decide +kernel
theorem d_Recv_tick_29 : decode b_Recv_tick 29 = .ok (.ireturn, 1) := by decide +kernel
theorem d_Recv_shown_0 : decode b_Recv_shown 0 = .ok (.aload_n 0, 1) := by decide +kernel
theorem d_Recv_shown_1 : decode b_Recv_shown 1 = .ok (.getfield 45, 3) := by decide +kernel
theorem d_Recv_shown_4 : decode b_Recv_shown 4 = .ok (.invokevirtual 100, 3) := by decide +kernel
theorem d_Recv_shown_7 : decode b_Recv_shown 7 = .ok (.astore_n 1, 1) := by decide +kernel
theorem d_Recv_shown_8 : decode b_Recv_shown 8 = .ok (.aload_n 1, 1) := by decide +kernel
theorem d_Recv_shown_9 : decode b_Recv_shown 9 = .ok (.ifnonnull 7, 3) := by decide +kernel
theorem d_Recv_shown_12 : decode b_Recv_shown 12 = .ok (.iconst (-1), 1) := by decide +kernel
theorem d_Recv_shown_13 : decode b_Recv_shown 13 = .ok (.goto 7, 3) := by decide +kernel
theorem d_Recv_shown_16 : decode b_Recv_shown 16 = .ok (.aload_n 1, 1) := by decide +kernel
theorem d_Recv_shown_17 : decode b_Recv_shown 17 = .ok (.getfield 104, 3) := by decide +kernel
theorem d_Recv_shown_20 : decode b_Recv_shown 20 = .ok (.ireturn, 1) := by decide +kernel
theorem d_Recv_viewer_0 : decode b_Recv_viewer 0 = .ok (.iload_n 1, 1) := by decide +kernel
theorem d_Recv_viewer_1 : decode b_Recv_viewer 1 = .ok (.tableswitch 82 0 3 #[31, 39, 47, 66], 31) := by decide +kernel
theorem d_Recv_viewer_32 : decode b_Recv_viewer 32 = .ok (.aload_n 0, 1) := by decide +kernel
theorem d_Recv_viewer_33 : decode b_Recv_viewer 33 = .ok (.getfield 45, 3) := by decide +kernel
theorem d_Recv_viewer_36 : decode b_Recv_viewer 36 = .ok (.getfield 109, 3) := by decide +kernel
theorem d_Recv_viewer_39 : decode b_Recv_viewer 39 = .ok (.ireturn, 1) := by decide +kernel
theorem d_Recv_viewer_40 : decode b_Recv_viewer 40 = .ok (.aload_n 0, 1) := by decide +kernel
theorem d_Recv_viewer_41 : decode b_Recv_viewer 41 = .ok (.getfield 45, 3) := by decide +kernel
theorem d_Recv_viewer_44 : decode b_Recv_viewer 44 = .ok (.getfield 112, 3) := by decide +kernel
theorem d_Recv_viewer_47 : decode b_Recv_viewer 47 = .ok (.ireturn, 1) := by decide +kernel
theorem d_Recv_viewer_48 : decode b_Recv_viewer 48 = .ok (.aload_n 0, 1) := by decide +kernel
theorem d_Recv_viewer_49 : decode b_Recv_viewer 49 = .ok (.getfield 45, 3) := by decide +kernel
theorem d_Recv_viewer_52 : decode b_Recv_viewer 52 = .ok (.getfield 115, 3) := by decide +kernel
theorem d_Recv_viewer_55 : decode b_Recv_viewer 55 = .ok (.getfield 119, 3) := by decide +kernel
theorem d_Recv_viewer_58 : decode b_Recv_viewer 58 = .ok (.ifCond .eq 7, 3) := by decide +kernel
theorem d_Recv_viewer_61 : decode b_Recv_viewer 61 = .ok (.iconst 1, 1) := by decide +kernel
theorem d_Recv_viewer_62 : decode b_Recv_viewer 62 = .ok (.goto 4, 3) := by decide +kernel
theorem d_Recv_viewer_65 : decode b_Recv_viewer 65 = .ok (.iconst 0, 1) := by decide +kernel
theorem d_Recv_viewer_66 : decode b_Recv_viewer 66 = .ok (.ireturn, 1) := by decide +kernel
theorem d_Recv_viewer_67 : decode b_Recv_viewer 67 = .ok (.aload_n 0, 1) := by decide +kernel
theorem d_Recv_viewer_68 : decode b_Recv_viewer 68 = .ok (.getfield 45, 3) := by decide +kernel
theorem d_Recv_viewer_71 : decode b_Recv_viewer 71 = .ok (.getfield 122, 3) := by decide +kernel
theorem d_Recv_viewer_74 : decode b_Recv_viewer 74 = .ok (.ifCond .eq 7, 3) := by decide +kernel
theorem d_Recv_viewer_77 : decode b_Recv_viewer 77 = .ok (.iconst 1, 1) := by decide +kernel
theorem d_Recv_viewer_78 : decode b_Recv_viewer 78 = .ok (.goto 4, 3) := by decide +kernel
theorem d_Recv_viewer_81 : decode b_Recv_viewer 81 = .ok (.iconst 0, 1) := by decide +kernel
theorem d_Recv_viewer_82 : decode b_Recv_viewer 82 = .ok (.ireturn, 1) := by decide +kernel
theorem d_Recv_viewer_83 : decode b_Recv_viewer 83 = .ok (.iconst (-1), 1) := by decide +kernel
theorem d_Recv_viewer_84 : decode b_Recv_viewer 84 = .ok (.ireturn, 1) := by decide +kernel
theorem d_Recv_kept_0 : decode b_Recv_kept 0 = .ok (.aload_n 0, 1) := by decide +kernel
theorem d_Recv_kept_1 : decode b_Recv_kept 1 = .ok (.getfield 36, 3) := by decide +kernel
theorem d_Recv_kept_4 : decode b_Recv_kept 4 = .ok (.iload_n 1, 1) := by decide +kernel
theorem d_Recv_kept_5 : decode b_Recv_kept 5 = .ok (.invokevirtual 125, 3) := by decide +kernel
theorem d_Recv_kept_8 : decode b_Recv_kept 8 = .ok (.astore_n 3, 1) := by decide +kernel
theorem d_Recv_kept_9 : decode b_Recv_kept 9 = .ok (.aload_n 3, 1) := by decide +kernel
theorem d_Recv_kept_10 : decode b_Recv_kept 10 = .ok (.ifnonnull 7, 3) := by decide +kernel
theorem d_Recv_kept_13 : decode b_Recv_kept 13 = .ok (.iconst (-1), 1) := by decide +kernel
theorem d_Recv_kept_14 : decode b_Recv_kept 14 = .ok (.goto 8, 3) := by decide +kernel
theorem d_Recv_kept_17 : decode b_Recv_kept 17 = .ok (.aload_n 3, 1) := by decide +kernel
theorem d_Recv_kept_18 : decode b_Recv_kept 18 = .ok (.iload_n 2, 1) := by decide +kernel
theorem d_Recv_kept_19 : decode b_Recv_kept 19 = .ok (.invokevirtual 129, 3) := by decide +kernel
theorem d_Recv_kept_22 : decode b_Recv_kept 22 = .ok (.ireturn, 1) := by decide +kernel
theorem d_Shelf_pageIn_0 : decode b_Shelf_pageIn 0 = .ok (.iload_n 1, 1) := by decide +kernel
theorem d_Shelf_pageIn_1 : decode b_Shelf_pageIn 1 = .ok (.ifCond .lt 24, 3) := by decide +kernel
theorem d_Shelf_pageIn_4 : decode b_Shelf_pageIn 4 = .ok (.iload_n 1, 1) := by decide +kernel
theorem d_Shelf_pageIn_5 : decode b_Shelf_pageIn 5 = .ok (.aload_n 0, 1) := by decide +kernel
theorem d_Shelf_pageIn_6 : decode b_Shelf_pageIn 6 = .ok (.getfield 17, 3) := by decide +kernel
theorem d_Shelf_pageIn_9 : decode b_Shelf_pageIn 9 = .ok (.arraylength, 1) := by decide +kernel
theorem d_Shelf_pageIn_10 : decode b_Shelf_pageIn 10 = .ok (.if_icmp .ge 15, 3) := by decide +kernel
theorem d_Shelf_pageIn_13 : decode b_Shelf_pageIn 13 = .ok (.aload_n 0, 1) := by decide +kernel
theorem d_Shelf_pageIn_14 : decode b_Shelf_pageIn 14 = .ok (.getfield 17, 3) := by decide +kernel
theorem d_Shelf_pageIn_17 : decode b_Shelf_pageIn 17 = .ok (.iload_n 1, 1) := by decide +kernel
theorem d_Shelf_pageIn_18 : decode b_Shelf_pageIn 18 = .ok (.aaload, 1) := by decide +kernel
theorem d_Shelf_pageIn_19 : decode b_Shelf_pageIn 19 = .ok (.getfield 22, 3) := by decide +kernel
theorem d_Shelf_pageIn_22 : decode b_Shelf_pageIn 22 = .ok (.ifCond .ne 7, 3) := by decide +kernel
theorem d_Shelf_pageIn_25 : decode b_Shelf_pageIn 25 = .ok (.aconst_null, 1) := by decide +kernel
theorem d_Shelf_pageIn_26 : decode b_Shelf_pageIn 26 = .ok (.goto 9, 3) := by decide +kernel
theorem d_Shelf_pageIn_29 : decode b_Shelf_pageIn 29 = .ok (.aload_n 0, 1) := by decide +kernel
theorem d_Shelf_pageIn_30 : decode b_Shelf_pageIn 30 = .ok (.getfield 17, 3) := by decide +kernel
theorem d_Shelf_pageIn_33 : decode b_Shelf_pageIn 33 = .ok (.iload_n 1, 1) := by decide +kernel
theorem d_Shelf_pageIn_34 : decode b_Shelf_pageIn 34 = .ok (.aaload, 1) := by decide +kernel
theorem d_Shelf_pageIn_35 : decode b_Shelf_pageIn 35 = .ok (.areturn, 1) := by decide +kernel
theorem d_Page_tell_0 : decode b_Page_tell 0 = .ok (.iload_n 1, 1) := by decide +kernel
theorem d_Page_tell_1 : decode b_Page_tell 1 = .ok (.tableswitch 75 0 7 #[47, 52, 57, 62, 67, 67, 67, 67], 47) := by decide +kernel
theorem d_Page_tell_48 : decode b_Page_tell 48 = .ok (.aload_n 0, 1) := by decide +kernel
theorem d_Page_tell_49 : decode b_Page_tell 49 = .ok (.getfield 25, 3) := by decide +kernel
theorem d_Page_tell_52 : decode b_Page_tell 52 = .ok (.ireturn, 1) := by decide +kernel
theorem d_Page_tell_53 : decode b_Page_tell 53 = .ok (.aload_n 0, 1) := by decide +kernel
theorem d_Page_tell_54 : decode b_Page_tell 54 = .ok (.getfield 35, 3) := by decide +kernel
theorem d_Page_tell_57 : decode b_Page_tell 57 = .ok (.ireturn, 1) := by decide +kernel
theorem d_Page_tell_58 : decode b_Page_tell 58 = .ok (.aload_n 0, 1) := by decide +kernel
theorem d_Page_tell_59 : decode b_Page_tell 59 = .ok (.getfield 38, 3) := by decide +kernel
theorem d_Page_tell_62 : decode b_Page_tell 62 = .ok (.ireturn, 1) := by decide +kernel
theorem d_Page_tell_63 : decode b_Page_tell 63 = .ok (.aload_n 0, 1) := by decide +kernel
theorem d_Page_tell_64 : decode b_Page_tell 64 = .ok (.getfield 41, 3) := by decide +kernel
theorem d_Page_tell_67 : decode b_Page_tell 67 = .ok (.ireturn, 1) := by decide +kernel
theorem d_Page_tell_68 : decode b_Page_tell 68 = .ok (.aload_n 0, 1) := by decide +kernel
theorem d_Page_tell_69 : decode b_Page_tell 69 = .ok (.iload_n 1, 1) := by decide +kernel
theorem d_Page_tell_70 : decode b_Page_tell 70 = .ok (.iconst 4, 1) := by decide +kernel
theorem d_Page_tell_71 : decode b_Page_tell 71 = .ok (.isub, 1) := by decide +kernel
theorem d_Page_tell_72 : decode b_Page_tell 72 = .ok (.invokevirtual 54, 3) := by decide +kernel
theorem d_Page_tell_75 : decode b_Page_tell 75 = .ok (.ireturn, 1) := by decide +kernel
theorem d_Page_tell_76 : decode b_Page_tell 76 = .ok (.iconst (-1), 1) := by decide +kernel
theorem d_Page_tell_77 : decode b_Page_tell 77 = .ok (.ireturn, 1) := by decide +kernel
theorem d_Recv_count_0 : decode b_Recv_count 0 = .ok (.iload_n 1, 1) := by decide +kernel
theorem d_Recv_count_1 : decode b_Recv_count 1 = .ok (.ifCond .lt 9, 3) := by decide +kernel
theorem d_Recv_count_4 : decode b_Recv_count 4 = .ok (.iload_n 1, 1) := by decide +kernel
theorem d_Recv_count_5 : decode b_Recv_count 5 = .ok (.bipush 6, 2) := by decide +kernel
theorem d_Recv_count_7 : decode b_Recv_count 7 = .ok (.if_icmp .lt 7, 3) := by decide +kernel
theorem d_Recv_count_10 : decode b_Recv_count 10 = .ok (.iconst (-1), 1) := by decide +kernel
theorem d_Recv_count_11 : decode b_Recv_count 11 = .ok (.goto 9, 3) := by decide +kernel
theorem d_Recv_count_14 : decode b_Recv_count 14 = .ok (.aload_n 0, 1) := by decide +kernel
theorem d_Recv_count_15 : decode b_Recv_count 15 = .ok (.getfield 9, 3) := by decide +kernel
theorem d_Recv_count_18 : decode b_Recv_count 18 = .ok (.iload_n 1, 1) := by decide +kernel
theorem d_Recv_count_19 : decode b_Recv_count 19 = .ok (.iaload, 1) := by decide +kernel
theorem d_Recv_count_20 : decode b_Recv_count 20 = .ok (.ireturn, 1) := by decide +kernel
theorem d_Recv_look_0 : decode b_Recv_look 0 = .ok (.iload_n 1, 1) := by decide +kernel
theorem d_Recv_look_1 : decode b_Recv_look 1 = .ok (.iload_n 2, 1) := by decide +kernel
theorem d_Recv_look_2 : decode b_Recv_look 2 = .ok (.invokestatic 133, 3) := by decide +kernel
theorem d_Recv_look_5 : decode b_Recv_look 5 = .ok (.ifCond .ne 5, 3) := by decide +kernel
theorem d_Recv_look_8 : decode b_Recv_look 8 = .ok (.iconst (-1), 1) := by decide +kernel
theorem d_Recv_look_9 : decode b_Recv_look 9 = .ok (.ireturn, 1) := by decide +kernel
theorem d_Recv_look_10 : decode b_Recv_look 10 = .ok (.aload_n 0, 1) := by decide +kernel
theorem d_Recv_look_11 : decode b_Recv_look 11 = .ok (.getfield 66, 3) := by decide +kernel
theorem d_Recv_look_14 : decode b_Recv_look 14 = .ok (.iload_n 1, 1) := by decide +kernel
theorem d_Recv_look_15 : decode b_Recv_look 15 = .ok (.iload_n 2, 1) := by decide +kernel
theorem d_Recv_look_16 : decode b_Recv_look 16 = .ok (.invokevirtual 137, 3) := by decide +kernel
theorem d_Recv_look_19 : decode b_Recv_look 19 = .ok (.iload_n 3, 1) := by decide +kernel
theorem d_Recv_look_20 : decode b_Recv_look 20 = .ok (.tableswitch 64 0 3 #[32, 40, 48, 56], 32) := by decide +kernel
theorem d_Recv_look_52 : decode b_Recv_look 52 = .ok (.aload_n 0, 1) := by decide +kernel
theorem d_Recv_look_53 : decode b_Recv_look 53 = .ok (.getfield 66, 3) := by decide +kernel
theorem d_Recv_look_56 : decode b_Recv_look 56 = .ok (.getfield 141, 3) := by decide +kernel
theorem d_Recv_look_59 : decode b_Recv_look 59 = .ok (.ireturn, 1) := by decide +kernel
theorem d_Recv_look_60 : decode b_Recv_look 60 = .ok (.aload_n 0, 1) := by decide +kernel
theorem d_Recv_look_61 : decode b_Recv_look 61 = .ok (.getfield 66, 3) := by decide +kernel
theorem d_Recv_look_64 : decode b_Recv_look 64 = .ok (.getfield 144, 3) := by decide +kernel
theorem d_Recv_look_67 : decode b_Recv_look 67 = .ok (.ireturn, 1) := by decide +kernel
theorem d_Recv_look_68 : decode b_Recv_look 68 = .ok (.aload_n 0, 1) := by decide +kernel
theorem d_Recv_look_69 : decode b_Recv_look 69 = .ok (.getfield 66, 3) := by decide +kernel
theorem d_Recv_look_72 : decode b_Recv_look 72 = .ok (.getfield 147, 3) := by decide +kernel
theorem d_Recv_look_75 : decode b_Recv_look 75 = .ok (.ireturn, 1) := by decide +kernel
theorem d_Recv_look_76 : decode b_Recv_look 76 = .ok (.aload_n 0, 1) := by decide +kernel
theorem d_Recv_look_77 : decode b_Recv_look 77 = .ok (.getfield 66, 3) := by decide +kernel
theorem d_Recv_look_80 : decode b_Recv_look 80 = .ok (.getfield 150, 3) := by decide +kernel
theorem d_Recv_look_83 : decode b_Recv_look 83 = .ok (.ireturn, 1) := by decide +kernel
theorem d_Recv_look_84 : decode b_Recv_look 84 = .ok (.iconst (-1), 1) := by decide +kernel
theorem d_Recv_look_85 : decode b_Recv_look 85 = .ok (.ireturn, 1) := by decide +kernel
theorem d_Screen_see_0 : decode b_Screen_see 0 = .ok (.aload_n 0, 1) := by decide +kernel
theorem d_Screen_see_1 : decode b_Screen_see 1 = .ok (.getfield 22, 3) := by decide +kernel
theorem d_Screen_see_4 : decode b_Screen_see 4 = .ok (.invokevirtual 30, 3) := by decide +kernel
theorem d_Screen_see_7 : decode b_Screen_see 7 = .ok (.astore_n 3, 1) := by decide +kernel
theorem d_Screen_see_8 : decode b_Screen_see 8 = .ok (.aload_n 0, 1) := by decide +kernel
theorem d_Screen_see_9 : decode b_Screen_see 9 = .ok (.aload_n 3, 1) := by decide +kernel
theorem d_Screen_see_10 : decode b_Screen_see 10 = .ok (.iload_n 1, 1) := by decide +kernel
theorem d_Screen_see_11 : decode b_Screen_see 11 = .ok (.invokevirtual 36, 3) := by decide +kernel
theorem d_Screen_see_14 : decode b_Screen_see 14 = .ok (.istore 4, 2) := by decide +kernel
theorem d_Screen_see_16 : decode b_Screen_see 16 = .ok (.iload 4, 2) := by decide +kernel
theorem d_Screen_see_18 : decode b_Screen_see 18 = .ok (.ifCond .eq 7, 3) := by decide +kernel
theorem d_Screen_see_21 : decode b_Screen_see 21 = .ok (.iload_n 1, 1) := by decide +kernel
theorem d_Screen_see_22 : decode b_Screen_see 22 = .ok (.goto 6, 3) := by decide +kernel
theorem d_Screen_see_25 : decode b_Screen_see 25 = .ok (.iload_n 1, 1) := by decide +kernel
theorem d_Screen_see_26 : decode b_Screen_see 26 = .ok (.iconst 1, 1) := by decide +kernel
theorem d_Screen_see_27 : decode b_Screen_see 27 = .ok (.isub, 1) := by decide +kernel
theorem d_Screen_see_28 : decode b_Screen_see 28 = .ok (.istore 5, 2) := by decide +kernel
theorem d_Screen_see_30 : decode b_Screen_see 30 = .ok (.aload_n 0, 1) := by decide +kernel
theorem d_Screen_see_31 : decode b_Screen_see 31 = .ok (.getfield 12, 3) := by decide +kernel
theorem d_Screen_see_34 : decode b_Screen_see 34 = .ok (.invokevirtual 40, 3) := by decide +kernel
theorem d_Screen_see_37 : decode b_Screen_see 37 = .ok (.iconst 0, 1) := by decide +kernel
theorem d_Screen_see_38 : decode b_Screen_see 38 = .ok (.istore 6, 2) := by decide +kernel
theorem d_Screen_see_40 : decode b_Screen_see 40 = .ok (.iload 6, 2) := by decide +kernel
theorem d_Screen_see_42 : decode b_Screen_see 42 = .ok (.iload_n 2, 1) := by decide +kernel
theorem d_Screen_see_43 : decode b_Screen_see 43 = .ok (.if_icmp .gt 18, 3) := by decide +kernel
theorem d_Screen_see_46 : decode b_Screen_see 46 = .ok (.aload_n 0, 1) := by decide +kernel
theorem d_Screen_see_47 : decode b_Screen_see 47 = .ok (.aload_n 3, 1) := by decide +kernel
theorem d_Screen_see_48 : decode b_Screen_see 48 = .ok (.iload 5, 2) := by decide +kernel
theorem d_Screen_see_50 : decode b_Screen_see 50 = .ok (.iload 6, 2) := by decide +kernel
theorem d_Screen_see_52 : decode b_Screen_see 52 = .ok (.invokevirtual 43, 3) := by decide +kernel
theorem d_Screen_see_55 : decode b_Screen_see 55 = .ok (.iinc 6 1, 3) := by decide +kernel
theorem d_Screen_see_58 : decode b_Screen_see 58 = .ok (.goto (-18), 3) := by decide +kernel
theorem d_Screen_see_61 : decode b_Screen_see 61 = .ok (.iload 4, 2) := by decide +kernel
theorem d_Screen_see_63 : decode b_Screen_see 63 = .ok (.ifCond .ne 7, 3) := by decide +kernel
theorem d_Screen_see_66 : decode b_Screen_see 66 = .ok (.aload_n 0, 1) := by decide +kernel
theorem d_Screen_see_67 : decode b_Screen_see 67 = .ok (.invokevirtual 47, 3) := by decide +kernel
theorem d_Screen_see_70 : decode b_Screen_see 70 = .ok (.return_, 1) := by decide +kernel
theorem d_Screen_isOwn_0 : decode b_Screen_isOwn 0 = .ok (.iconst 1, 1) := by decide +kernel
theorem d_Screen_isOwn_1 : decode b_Screen_isOwn 1 = .ok (.istore_n 3, 1) := by decide +kernel
theorem d_Screen_isOwn_2 : decode b_Screen_isOwn 2 = .ok (.iconst 2, 1) := by decide +kernel
theorem d_Screen_isOwn_3 : decode b_Screen_isOwn 3 = .ok (.istore 4, 2) := by decide +kernel
theorem d_Screen_isOwn_5 : decode b_Screen_isOwn 5 = .ok (.iload 4, 2) := by decide +kernel
theorem d_Screen_isOwn_7 : decode b_Screen_isOwn 7 = .ok (.iload_n 2, 1) := by decide +kernel
theorem d_Screen_isOwn_8 : decode b_Screen_isOwn 8 = .ok (.if_icmp .gt 31, 3) := by decide +kernel
theorem d_Screen_isOwn_11 : decode b_Screen_isOwn 11 = .ok (.iload_n 3, 1) := by decide +kernel
theorem d_Screen_isOwn_12 : decode b_Screen_isOwn 12 = .ok (.ifCond .eq 15, 3) := by decide +kernel
theorem d_Screen_isOwn_15 : decode b_Screen_isOwn 15 = .ok (.aload_n 0, 1) := by decide +kernel
theorem d_Screen_isOwn_16 : decode b_Screen_isOwn 16 = .ok (.aload_n 1, 1) := by decide +kernel
theorem d_Screen_isOwn_17 : decode b_Screen_isOwn 17 = .ok (.iload 4, 2) := by decide +kernel
theorem d_Screen_isOwn_19 : decode b_Screen_isOwn 19 = .ok (.iconst 1, 1) := by decide +kernel
theorem d_Screen_isOwn_20 : decode b_Screen_isOwn 20 = .ok (.isub, 1) := by decide +kernel
theorem d_Screen_isOwn_21 : decode b_Screen_isOwn 21 = .ok (.invokevirtual 50, 3) := by decide +kernel
theorem d_Screen_isOwn_24 : decode b_Screen_isOwn 24 = .ok (.ifCond .ne 7, 3) := by decide +kernel
theorem d_Screen_isOwn_27 : decode b_Screen_isOwn 27 = .ok (.iconst 1, 1) := by decide +kernel
theorem d_Screen_isOwn_28 : decode b_Screen_isOwn 28 = .ok (.goto 4, 3) := by decide +kernel
theorem d_Screen_isOwn_31 : decode b_Screen_isOwn 31 = .ok (.iconst 0, 1) := by decide +kernel
theorem d_Screen_isOwn_32 : decode b_Screen_isOwn 32 = .ok (.istore_n 3, 1) := by decide +kernel
theorem d_Screen_isOwn_33 : decode b_Screen_isOwn 33 = .ok (.iinc 4 1, 3) := by decide +kernel
theorem d_Screen_isOwn_36 : decode b_Screen_isOwn 36 = .ok (.goto (-31), 3) := by decide +kernel
theorem d_Screen_isOwn_39 : decode b_Screen_isOwn 39 = .ok (.iload_n 3, 1) := by decide +kernel
theorem d_Screen_isOwn_40 : decode b_Screen_isOwn 40 = .ok (.ireturn, 1) := by decide +kernel
theorem d_Screen_hasDouble_0 : decode b_Screen_hasDouble 0 = .ok (.iconst 0, 1) := by decide +kernel
theorem d_Screen_hasDouble_1 : decode b_Screen_hasDouble 1 = .ok (.istore_n 3, 1) := by decide +kernel
theorem d_Screen_hasDouble_2 : decode b_Screen_hasDouble 2 = .ok (.iconst 0, 1) := by decide +kernel
theorem d_Screen_hasDouble_3 : decode b_Screen_hasDouble 3 = .ok (.istore 4, 2) := by decide +kernel
theorem d_Screen_hasDouble_5 : decode b_Screen_hasDouble 5 = .ok (.iload 4, 2) := by decide +kernel
theorem d_Screen_hasDouble_7 : decode b_Screen_hasDouble 7 = .ok (.bipush 20, 2) := by decide +kernel
theorem d_Screen_hasDouble_9 : decode b_Screen_hasDouble 9 = .ok (.if_icmp .ge 55, 3) := by decide +kernel
theorem d_Screen_hasDouble_12 : decode b_Screen_hasDouble 12 = .ok (.aload_n 0, 1) := by decide +kernel
theorem d_Screen_hasDouble_13 : decode b_Screen_hasDouble 13 = .ok (.aload_n 1, 1) := by decide +kernel
theorem d_Screen_hasDouble_14 : decode b_Screen_hasDouble 14 = .ok (.iload_n 2, 1) := by decide +kernel
theorem d_Screen_hasDouble_15 : decode b_Screen_hasDouble 15 = .ok (.iload 4, 2) := by decide +kernel
theorem d_Screen_hasDouble_17 : decode b_Screen_hasDouble 17 = .ok (.invokevirtual 53, 3) := by decide +kernel
theorem d_Screen_hasDouble_20 : decode b_Screen_hasDouble 20 = .ok (.istore 5, 2) := by decide +kernel
theorem d_Screen_hasDouble_22 : decode b_Screen_hasDouble 22 = .ok (.iload_n 3, 1) := by decide +kernel
theorem d_Screen_hasDouble_23 : decode b_Screen_hasDouble 23 = .ok (.ifCond .eq 14, 3) := by decide +kernel
theorem d_Screen_hasDouble_26 : decode b_Screen_hasDouble 26 = .ok (.iload 5, 2) := by decide +kernel
theorem d_Screen_hasDouble_28 : decode b_Screen_hasDouble 28 = .ok (.bipush 12, 2) := by decide +kernel
theorem d_Screen_hasDouble_30 : decode b_Screen_hasDouble 30 = .ok (.if_icmp .eq 7, 3) := by decide +kernel
theorem d_Screen_hasDouble_33 : decode b_Screen_hasDouble 33 = .ok (.iconst 1, 1) := by decide +kernel
theorem d_Screen_hasDouble_34 : decode b_Screen_hasDouble 34 = .ok (.goto 4, 3) := by decide +kernel
theorem d_Screen_hasDouble_37 : decode b_Screen_hasDouble 37 = .ok (.iconst 0, 1) := by decide +kernel
theorem d_Screen_hasDouble_38 : decode b_Screen_hasDouble 38 = .ok (.istore_n 3, 1) := by decide +kernel
theorem d_Screen_hasDouble_39 : decode b_Screen_hasDouble 39 = .ok (.iload_n 3, 1) := by decide +kernel
theorem d_Screen_hasDouble_40 : decode b_Screen_hasDouble 40 = .ok (.ifCond .eq 5, 3) := by decide +kernel
theorem d_Screen_hasDouble_43 : decode b_Screen_hasDouble 43 = .ok (.iconst 1, 1) := by decide +kernel
theorem d_Screen_hasDouble_44 : decode b_Screen_hasDouble 44 = .ok (.ireturn, 1) := by decide +kernel
theorem d_Screen_hasDouble_45 : decode b_Screen_hasDouble 45 = .ok (.iload 5, 2) := by decide +kernel
theorem d_Screen_hasDouble_47 : decode b_Screen_hasDouble 47 = .ok (.bipush 13, 2) := by decide +kernel
theorem d_Screen_hasDouble_49 : decode b_Screen_hasDouble 49 = .ok (.if_icmp .ne 7, 3) := by decide +kernel
theorem d_Screen_hasDouble_52 : decode b_Screen_hasDouble 52 = .ok (.iconst 1, 1) := by decide +kernel
theorem d_Screen_hasDouble_53 : decode b_Screen_hasDouble 53 = .ok (.goto 4, 3) := by decide +kernel
theorem d_Screen_hasDouble_56 : decode b_Screen_hasDouble 56 = .ok (.iconst 0, 1) := by decide +kernel
theorem d_Screen_hasDouble_57 : decode b_Screen_hasDouble 57 = .ok (.istore_n 3, 1) := by decide +kernel
theorem d_Screen_hasDouble_58 : decode b_Screen_hasDouble 58 = .ok (.iinc 4 1, 3) := by decide +kernel
theorem d_Screen_hasDouble_61 : decode b_Screen_hasDouble 61 = .ok (.goto (-56), 3) := by decide +kernel
theorem d_Screen_hasDouble_64 : decode b_Screen_hasDouble 64 = .ok (.iconst 0, 1) := by decide +kernel
theorem d_Screen_hasDouble_65 : decode b_Screen_hasDouble 65 = .ok (.ireturn, 1) := by decide +kernel
theorem d_Screen_letterAt_0 : decode b_Screen_letterAt 0 = .ok (.iload_n 2, 1) := by decide +kernel
theorem d_Screen_letterAt_1 : decode b_Screen_letterAt 1 = .ok (.ifCond .ne 15, 3) := by decide +kernel
theorem d_Screen_letterAt_4 : decode b_Screen_letterAt 4 = .ok (.iload_n 3, 1) := by decide +kernel
theorem d_Screen_letterAt_5 : decode b_Screen_letterAt 5 = .ok (.bipush 8, 2) := by decide +kernel
theorem d_Screen_letterAt_7 : decode b_Screen_letterAt 7 = .ok (.if_icmp .ge 9, 3) := by decide +kernel
theorem d_Screen_letterAt_10 : decode b_Screen_letterAt 10 = .ok (.aload_n 0, 1) := by decide +kernel
theorem d_Screen_letterAt_11 : decode b_Screen_letterAt 11 = .ok (.iload_n 3, 1) := by decide +kernel
theorem d_Screen_letterAt_12 : decode b_Screen_letterAt 12 = .ok (.invokevirtual 57, 3) := by decide +kernel
theorem d_Screen_letterAt_15 : decode b_Screen_letterAt 15 = .ok (.ireturn, 1) := by decide +kernel
theorem d_Screen_letterAt_16 : decode b_Screen_letterAt 16 = .ok (.aload_n 1, 1) := by decide +kernel
theorem d_Screen_letterAt_17 : decode b_Screen_letterAt 17 = .ok (.ifnull 10, 3) := by decide +kernel
theorem d_Screen_letterAt_20 : decode b_Screen_letterAt 20 = .ok (.aload_n 1, 1) := by decide +kernel
theorem d_Screen_letterAt_21 : decode b_Screen_letterAt 21 = .ok (.iload_n 2, 1) := by decide +kernel
theorem d_Screen_letterAt_22 : decode b_Screen_letterAt 22 = .ok (.iload_n 3, 1) := by decide +kernel
theorem d_Screen_letterAt_23 : decode b_Screen_letterAt 23 = .ok (.invokevirtual 61, 3) := by decide +kernel
theorem d_Screen_letterAt_26 : decode b_Screen_letterAt 26 = .ok (.ireturn, 1) := by decide +kernel
theorem d_Screen_letterAt_27 : decode b_Screen_letterAt 27 = .ok (.iload_n 2, 1) := by decide +kernel
theorem d_Screen_letterAt_28 : decode b_Screen_letterAt 28 = .ok (.ifCond .ne 18, 3) := by decide +kernel
theorem d_Screen_letterAt_31 : decode b_Screen_letterAt 31 = .ok (.iload_n 3, 1) := by decide +kernel
theorem d_Screen_letterAt_32 : decode b_Screen_letterAt 32 = .ok (.bipush 20, 2) := by decide +kernel
theorem d_Screen_letterAt_34 : decode b_Screen_letterAt 34 = .ok (.if_icmp .ge 12, 3) := by decide +kernel
theorem d_Screen_letterAt_37 : decode b_Screen_letterAt 37 = .ok (.aload_n 0, 1) := by decide +kernel
theorem d_Screen_letterAt_38 : decode b_Screen_letterAt 38 = .ok (.getfield 26, 3) := by decide +kernel
theorem d_Screen_letterAt_41 : decode b_Screen_letterAt 41 = .ok (.iload_n 3, 1) := by decide +kernel
theorem d_Screen_letterAt_42 : decode b_Screen_letterAt 42 = .ok (.iaload, 1) := by decide +kernel
theorem d_Screen_letterAt_43 : decode b_Screen_letterAt 43 = .ok (.goto 5, 3) := by decide +kernel
theorem d_Screen_letterAt_46 : decode b_Screen_letterAt 46 = .ok (.bipush 32, 2) := by decide +kernel
theorem d_Screen_letterAt_48 : decode b_Screen_letterAt 48 = .ok (.ireturn, 1) := by decide +kernel
theorem d_Screen_headLetter_0 : decode b_Screen_headLetter 0 = .ok (.aload_n 0, 1) := by decide +kernel
theorem d_Screen_headLetter_1 : decode b_Screen_headLetter 1 = .ok (.getfield 22, 3) := by decide +kernel
theorem d_Screen_headLetter_4 : decode b_Screen_headLetter 4 = .ok (.getfield 66, 3) := by decide +kernel
theorem d_Screen_headLetter_7 : decode b_Screen_headLetter 7 = .ok (.sipush 256, 3) := by decide +kernel
theorem d_Screen_headLetter_10 : decode b_Screen_headLetter 10 = .ok (.idiv, 1) := by decide +kernel
theorem d_Screen_headLetter_11 : decode b_Screen_headLetter 11 = .ok (.bipush 8, 2) := by decide +kernel
theorem d_Screen_headLetter_13 : decode b_Screen_headLetter 13 = .ok (.irem, 1) := by decide +kernel
theorem d_Screen_headLetter_14 : decode b_Screen_headLetter 14 = .ok (.istore_n 2, 1) := by decide +kernel
theorem d_Screen_headLetter_15 : decode b_Screen_headLetter 15 = .ok (.iload_n 1, 1) := by decide +kernel
theorem d_Screen_headLetter_16 : decode b_Screen_headLetter 16 = .ok (.tableswitch 80 0 3 #[32, 35, 49, 66], 32) := by decide +kernel
theorem d_Screen_headLetter_48 : decode b_Screen_headLetter 48 = .ok (.bipush 80, 2) := by decide +kernel
theorem d_Screen_headLetter_50 : decode b_Screen_headLetter 50 = .ok (.ireturn, 1) := by decide +kernel
theorem d_Screen_headLetter_51 : decode b_Screen_headLetter 51 = .ok (.iload_n 2, 1) := by decide +kernel
theorem d_Screen_headLetter_52 : decode b_Screen_headLetter 52 = .ok (.ifCond .ne 8, 3) := by decide +kernel
theorem d_Screen_headLetter_55 : decode b_Screen_headLetter 55 = .ok (.bipush 8, 2) := by decide +kernel
theorem d_Screen_headLetter_57 : decode b_Screen_headLetter 57 = .ok (.goto 4, 3) := by decide +kernel
theorem d_Screen_headLetter_60 : decode b_Screen_headLetter 60 = .ok (.iload_n 2, 1) := by decide +kernel
theorem d_Screen_headLetter_61 : decode b_Screen_headLetter 61 = .ok (.invokestatic 70, 3) := by decide +kernel
theorem d_Screen_headLetter_64 : decode b_Screen_headLetter 64 = .ok (.ireturn, 1) := by decide +kernel
theorem d_Screen_headLetter_65 : decode b_Screen_headLetter 65 = .ok (.aload_n 0, 1) := by decide +kernel
theorem d_Screen_headLetter_66 : decode b_Screen_headLetter 66 = .ok (.getfield 22, 3) := by decide +kernel
theorem d_Screen_headLetter_69 : decode b_Screen_headLetter 69 = .ok (.getfield 66, 3) := by decide +kernel
theorem d_Screen_headLetter_72 : decode b_Screen_headLetter 72 = .ok (.bipush 16, 2) := by decide +kernel
theorem d_Screen_headLetter_74 : decode b_Screen_headLetter 74 = .ok (.idiv, 1) := by decide +kernel
theorem d_Screen_headLetter_75 : decode b_Screen_headLetter 75 = .ok (.bipush 16, 2) := by decide +kernel
theorem d_Screen_headLetter_77 : decode b_Screen_headLetter 77 = .ok (.irem, 1) := by decide +kernel
theorem d_Screen_headLetter_78 : decode b_Screen_headLetter 78 = .ok (.invokestatic 70, 3) := by decide +kernel
theorem d_Screen_headLetter_81 : decode b_Screen_headLetter 81 = .ok (.ireturn, 1) := by decide +kernel
theorem d_Screen_headLetter_82 : decode b_Screen_headLetter 82 = .ok (.aload_n 0, 1) := by decide +kernel
theorem d_Screen_headLetter_83 : decode b_Screen_headLetter 83 = .ok (.getfield 22, 3) := by decide +kernel
theorem d_Screen_headLetter_86 : decode b_Screen_headLetter 86 = .ok (.getfield 66, 3) := by decide +kernel
theorem d_Screen_headLetter_89 : decode b_Screen_headLetter 89 = .ok (.bipush 16, 2) := by decide +kernel
theorem d_Screen_headLetter_91 : decode b_Screen_headLetter 91 = .ok (.irem, 1) := by decide +kernel
theorem d_Screen_headLetter_92 : decode b_Screen_headLetter 92 = .ok (.invokestatic 70, 3) := by decide +kernel
theorem d_Screen_headLetter_95 : decode b_Screen_headLetter 95 = .ok (.ireturn, 1) := by decide +kernel
theorem d_Screen_headLetter_96 : decode b_Screen_headLetter 96 = .ok (.bipush 32, 2) := by decide +kernel
theorem d_Screen_headLetter_98 : decode b_Screen_headLetter 98 = .ok (.ireturn, 1) := by decide +kernel
theorem d_Screen_digitLetter_0 : decode b_Screen_digitLetter 0 = .ok (.iload_n 0, 1) := by decide +kernel
theorem d_Screen_digitLetter_1 : decode b_Screen_digitLetter 1 = .ok (.bipush 10, 2) := by decide +kernel
theorem d_Screen_digitLetter_3 : decode b_Screen_digitLetter 3 = .ok (.if_icmp .ge 10, 3) := by decide +kernel
theorem d_Screen_digitLetter_6 : decode b_Screen_digitLetter 6 = .ok (.bipush 48, 2) := by decide +kernel
theorem d_Screen_digitLetter_8 : decode b_Screen_digitLetter 8 = .ok (.iload_n 0, 1) := by decide +kernel
theorem d_Screen_digitLetter_9 : decode b_Screen_digitLetter 9 = .ok (.iadd, 1) := by decide +kernel
theorem d_Screen_digitLetter_10 : decode b_Screen_digitLetter 10 = .ok (.goto 10, 3) := by decide +kernel
theorem d_Screen_digitLetter_13 : decode b_Screen_digitLetter 13 = .ok (.bipush 65, 2) := by decide +kernel
theorem d_Screen_digitLetter_15 : decode b_Screen_digitLetter 15 = .ok (.iload_n 0, 1) := by decide +kernel
theorem d_Screen_digitLetter_16 : decode b_Screen_digitLetter 16 = .ok (.iadd, 1) := by decide +kernel
theorem d_Screen_digitLetter_17 : decode b_Screen_digitLetter 17 = .ok (.bipush 10, 2) := by decide +kernel
theorem d_Screen_digitLetter_19 : decode b_Screen_digitLetter 19 = .ok (.isub, 1) := by decide +kernel
theorem d_Screen_digitLetter_20 : decode b_Screen_digitLetter 20 = .ok (.ireturn, 1) := by decide +kernel
theorem d_Page_letterAt_0 : decode b_Page_letterAt 0 = .ok (.iload_n 1, 1) := by decide +kernel
theorem d_Page_letterAt_1 : decode b_Page_letterAt 1 = .ok (.iload_n 2, 1) := by decide +kernel
theorem d_Page_letterAt_2 : decode b_Page_letterAt 2 = .ok (.invokestatic 50, 3) := by decide +kernel
theorem d_Page_letterAt_5 : decode b_Page_letterAt 5 = .ok (.ifCond .eq 17, 3) := by decide +kernel
theorem d_Page_letterAt_8 : decode b_Page_letterAt 8 = .ok (.aload_n 0, 1) := by decide +kernel
theorem d_Page_letterAt_9 : decode b_Page_letterAt 9 = .ok (.getfield 9, 3) := by decide +kernel
theorem d_Page_letterAt_12 : decode b_Page_letterAt 12 = .ok (.iload_n 1, 1) := by decide +kernel
theorem d_Page_letterAt_13 : decode b_Page_letterAt 13 = .ok (.bipush 20, 2) := by decide +kernel
theorem d_Page_letterAt_15 : decode b_Page_letterAt 15 = .ok (.imul, 1) := by decide +kernel
theorem d_Page_letterAt_16 : decode b_Page_letterAt 16 = .ok (.iload_n 2, 1) := by decide +kernel
theorem d_Page_letterAt_17 : decode b_Page_letterAt 17 = .ok (.iadd, 1) := by decide +kernel
theorem d_Page_letterAt_18 : decode b_Page_letterAt 18 = .ok (.iaload, 1) := by decide +kernel
theorem d_Page_letterAt_19 : decode b_Page_letterAt 19 = .ok (.goto 5, 3) := by decide +kernel
theorem d_Page_letterAt_22 : decode b_Page_letterAt 22 = .ok (.bipush 32, 2) := by decide +kernel
theorem d_Page_letterAt_24 : decode b_Page_letterAt 24 = .ok (.ireturn, 1) := by decide +kernel
theorem d_States_begin_0 : decode b_States_begin 0 = .ok (.aload_n 0, 1) := by decide +kernel
theorem d_States_begin_1 : decode b_States_begin 1 = .ok (.bipush 7, 2) := by decide +kernel
theorem d_States_begin_3 : decode b_States_begin 3 = .ok (.putfield 9, 3) := by decide +kernel
theorem d_States_begin_6 : decode b_States_begin 6 = .ok (.aload_n 0, 1) := by decide +kernel
theorem d_States_begin_7 : decode b_States_begin 7 = .ok (.iconst 0, 1) := by decide +kernel
theorem d_States_begin_8 : decode b_States_begin 8 = .ok (.putfield 15, 3) := by decide +kernel
theorem d_States_begin_11 : decode b_States_begin 11 = .ok (.aload_n 0, 1) := by decide +kernel
theorem d_States_begin_12 : decode b_States_begin 12 = .ok (.iconst 0, 1) := by decide +kernel
theorem d_States_begin_13 : decode b_States_begin 13 = .ok (.putfield 18, 3) := by decide +kernel
theorem d_States_begin_16 : decode b_States_begin 16 = .ok (.aload_n 0, 1) := by decide +kernel
theorem d_States_begin_17 : decode b_States_begin 17 = .ok (.iconst 0, 1) := by decide +kernel
theorem d_States_begin_18 : decode b_States_begin 18 = .ok (.putfield 22, 3) := by decide +kernel
theorem d_States_begin_21 : decode b_States_begin 21 = .ok (.aload_n 0, 1) := by decide +kernel
theorem d_States_begin_22 : decode b_States_begin 22 = .ok (.iconst 0, 1) := by decide +kernel
theorem d_States_begin_23 : decode b_States_begin 23 = .ok (.putfield 25, 3) := by decide +kernel
theorem d_States_begin_26 : decode b_States_begin 26 = .ok (.aload_n 0, 1) := by decide +kernel
theorem d_States_begin_27 : decode b_States_begin 27 = .ok (.iconst 0, 1) := by decide +kernel
theorem d_States_begin_28 : decode b_States_begin 28 = .ok (.putfield 28, 3) := by decide +kernel
theorem d_States_begin_31 : decode b_States_begin 31 = .ok (.aload_n 0, 1) := by decide +kernel
theorem d_States_begin_32 : decode b_States_begin 32 = .ok (.iconst 0, 1) := by decide +kernel
theorem d_States_begin_33 : decode b_States_begin 33 = .ok (.putfield 31, 3) := by decide +kernel
theorem d_States_begin_36 : decode b_States_begin 36 = .ok (.aload_n 0, 1) := by decide +kernel
theorem d_States_begin_37 : decode b_States_begin 37 = .ok (.iconst 0, 1) := by decide +kernel
theorem d_States_begin_38 : decode b_States_begin 38 = .ok (.putfield 34, 3) := by decide +kernel
theorem d_States_begin_41 : decode b_States_begin 41 = .ok (.aload_n 0, 1) := by decide +kernel
theorem d_States_begin_42 : decode b_States_begin 42 = .ok (.iconst 0, 1) := by decide +kernel
theorem d_States_begin_43 : decode b_States_begin 43 = .ok (.putfield 37, 3) := by decide +kernel
theorem d_States_begin_46 : decode b_States_begin 46 = .ok (.aload_n 0, 1) := by decide +kernel
theorem d_States_begin_47 : decode b_States_begin 47 = .ok (.bipush 32, 2) := by decide +kernel
theorem d_States_begin_49 : decode b_States_begin 49 = .ok (.iconst 0, 1) := by decide +kernel
theorem d_States_begin_50 : decode b_States_begin 50 = .ok (.invokevirtual 40, 3) := by decide +kernel
theorem d_States_begin_53 : decode b_States_begin 53 = .ok (.return_, 1) := by decide +kernel
theorem d_States_holdLetter_0 : decode b_States_holdLetter 0 = .ok (.aload_n 0, 1) := by decide +kernel
theorem d_States_holdLetter_1 : decode b_States_holdLetter 1 = .ok (.iload_n 1, 1) := by decide +kernel
theorem d_States_holdLetter_2 : decode b_States_holdLetter 2 = .ok (.putfield 44, 3) := by decide +kernel
theorem d_States_holdLetter_5 : decode b_States_holdLetter 5 = .ok (.aload_n 0, 1) := by decide +kernel
theorem d_States_holdLetter_6 : decode b_States_holdLetter 6 = .ok (.iload_n 2, 1) := by decide +kernel
theorem d_States_holdLetter_7 : decode b_States_holdLetter 7 = .ok (.putfield 47, 3) := by decide +kernel
theorem d_States_holdLetter_10 : decode b_States_holdLetter 10 = .ok (.return_, 1) := by decide +kernel
theorem d_Screen_drawCell_0 : decode b_Screen_drawCell 0 = .ok (.aload_n 0, 1) := by decide +kernel
theorem d_Screen_drawCell_1 : decode b_Screen_drawCell 1 = .ok (.aload_n 1, 1) := by decide +kernel
theorem d_Screen_drawCell_2 : decode b_Screen_drawCell 2 = .ok (.iload_n 2, 1) := by decide +kernel
theorem d_Screen_drawCell_3 : decode b_Screen_drawCell 3 = .ok (.iload_n 3, 1) := by decide +kernel
theorem d_Screen_drawCell_4 : decode b_Screen_drawCell 4 = .ok (.invokevirtual 53, 3) := by decide +kernel
theorem d_Screen_drawCell_7 : decode b_Screen_drawCell 7 = .ok (.istore 4, 2) := by decide +kernel
theorem d_Screen_drawCell_9 : decode b_Screen_drawCell 9 = .ok (.iload 4, 2) := by decide +kernel
theorem d_Screen_drawCell_11 : decode b_Screen_drawCell 11 = .ok (.bipush 32, 2) := by decide +kernel
theorem d_Screen_drawCell_13 : decode b_Screen_drawCell 13 = .ok (.if_icmp .ge 19, 3) := by decide +kernel
theorem d_Screen_drawCell_16 : decode b_Screen_drawCell 16 = .ok (.aload_n 0, 1) := by decide +kernel
theorem d_Screen_drawCell_17 : decode b_Screen_drawCell 17 = .ok (.getfield 12, 3) := by decide +kernel
theorem d_Screen_drawCell_20 : decode b_Screen_drawCell 20 = .ok (.iload 4, 2) := by decide +kernel
theorem d_Screen_drawCell_22 : decode b_Screen_drawCell 22 = .ok (.invokevirtual 76, 3) := by decide +kernel
theorem d_Screen_drawCell_25 : decode b_Screen_drawCell 25 = .ok (.aload_n 0, 1) := by decide +kernel
theorem d_Screen_drawCell_26 : decode b_Screen_drawCell 26 = .ok (.invokevirtual 80, 3) := by decide +kernel
theorem d_Screen_drawCell_29 : decode b_Screen_drawCell 29 = .ok (.goto 27, 3) := by decide +kernel
theorem d_Screen_drawCell_32 : decode b_Screen_drawCell 32 = .ok (.aload_n 0, 1) := by decide +kernel
theorem d_Screen_drawCell_33 : decode b_Screen_drawCell 33 = .ok (.iload 4, 2) := by decide +kernel
theorem d_Screen_drawCell_35 : decode b_Screen_drawCell 35 = .ok (.aload_n 1, 1) := by decide +kernel
theorem d_Screen_drawCell_36 : decode b_Screen_drawCell 36 = .ok (.iload_n 2, 1) := by decide +kernel
theorem d_Screen_drawCell_37 : decode b_Screen_drawCell 37 = .ok (.iload_n 3, 1) := by decide +kernel
theorem d_Screen_drawCell_38 : decode b_Screen_drawCell 38 = .ok (.invokestatic 83, 3) := by decide +kernel
theorem d_Screen_drawCell_41 : decode b_Screen_drawCell 41 = .ok (.aload_n 1, 1) := by decide +kernel
theorem d_Screen_drawCell_42 : decode b_Screen_drawCell 42 = .ok (.ifnonnull 7, 3) := by decide +kernel
theorem d_Screen_drawCell_45 : decode b_Screen_drawCell 45 = .ok (.iconst 0, 1) := by decide +kernel
theorem d_Screen_drawCell_46 : decode b_Screen_drawCell 46 = .ok (.goto 7, 3) := by decide +kernel
theorem d_Screen_drawCell_49 : decode b_Screen_drawCell 49 = .ok (.aload_n 1, 1) := by decide +kernel
theorem d_Screen_drawCell_50 : decode b_Screen_drawCell 50 = .ok (.getfield 85, 3) := by decide +kernel
theorem d_Screen_drawCell_53 : decode b_Screen_drawCell 53 = .ok (.invokevirtual 88, 3) := by decide +kernel
theorem d_Screen_drawCell_56 : decode b_Screen_drawCell 56 = .ok (.aload_n 0, 1) := by decide +kernel
theorem d_Screen_drawCell_57 : decode b_Screen_drawCell 57 = .ok (.iload_n 2, 1) := by decide +kernel
theorem d_Screen_drawCell_58 : decode b_Screen_drawCell 58 = .ok (.invokevirtual 92, 3) := by decide +kernel
theorem d_Screen_drawCell_61 : decode b_Screen_drawCell 61 = .ok (.iload 4, 2) := by decide +kernel
theorem d_Screen_drawCell_63 : decode b_Screen_drawCell 63 = .ok (.bipush 32, 2) := by decide +kernel
theorem d_Screen_drawCell_65 : decode b_Screen_drawCell 65 = .ok (.if_icmp .ge 12, 3) := by decide +kernel
theorem d_Screen_drawCell_68 : decode b_Screen_drawCell 68 = .ok (.aload_n 0, 1) := by decide +kernel
theorem d_Screen_drawCell_69 : decode b_Screen_drawCell 69 = .ok (.getfield 12, 3) := by decide +kernel
theorem d_Screen_drawCell_72 : decode b_Screen_drawCell 72 = .ok (.iload 4, 2) := by decide +kernel
theorem d_Screen_drawCell_74 : decode b_Screen_drawCell 74 = .ok (.invokevirtual 95, 3) := by decide +kernel
theorem d_Screen_drawCell_77 : decode b_Screen_drawCell 77 = .ok (.return_, 1) := by decide +kernel
end
section
theorem d_States_doAtOnce_0 : decode b_States_doAtOnce 0 = .ok (.iload_n 1, 1) := by decide +kernel
theorem d_States_doAtOnce_1 : decode b_States_doAtOnce 1 = .ok (.tableswitch 170 9 30 #[103, 170, 170, 111, 170, 170, 170, 170, 170, 170, 170, 170, 170, 170, 170, 119, 127, 135, 170, 143, 151, 162], 103) := by decide +kernel
theorem d_States_doAtOnce_104 : decode b_States_doAtOnce 104 = .ok (.aload_n 0, 1) := by decide +kernel
theorem d_States_doAtOnce_105 : decode b_States_doAtOnce 105 = .ok (.iconst 0, 1) := by decide +kernel
theorem d_States_doAtOnce_106 : decode b_States_doAtOnce 106 = .ok (.putfield 22, 3) := by decide +kernel
theorem d_States_doAtOnce_109 : decode b_States_doAtOnce 109 = .ok (.goto 62, 3) := by decide +kernel
theorem d_States_doAtOnce_112 : decode b_States_doAtOnce 112 = .ok (.aload_n 0, 1) := by decide +kernel
theorem d_States_doAtOnce_113 : decode b_States_doAtOnce 113 = .ok (.iconst 0, 1) := by decide +kernel
theorem d_States_doAtOnce_114 : decode b_States_doAtOnce 114 = .ok (.invokevirtual 50, 3) := by decide +kernel
theorem d_States_doAtOnce_117 : decode b_States_doAtOnce 117 = .ok (.goto 54, 3) := by decide +kernel
theorem d_States_doAtOnce_120 : decode b_States_doAtOnce 120 = .ok (.aload_n 0, 1) := by decide +kernel
theorem d_States_doAtOnce_121 : decode b_States_doAtOnce 121 = .ok (.iconst 1, 1) := by decide +kernel
theorem d_States_doAtOnce_122 : decode b_States_doAtOnce 122 = .ok (.putfield 25, 3) := by decide +kernel
theorem d_States_doAtOnce_125 : decode b_States_doAtOnce 125 = .ok (.goto 46, 3) := by decide +kernel
theorem d_States_doAtOnce_128 : decode b_States_doAtOnce 128 = .ok (.aload_n 0, 1) := by decide +kernel
theorem d_States_doAtOnce_129 : decode b_States_doAtOnce 129 = .ok (.iconst 0, 1) := by decide +kernel
theorem d_States_doAtOnce_130 : decode b_States_doAtOnce 130 = .ok (.putfield 34, 3) := by decide +kernel
theorem d_States_doAtOnce_133 : decode b_States_doAtOnce 133 = .ok (.goto 38, 3) := by decide +kernel
theorem d_States_doAtOnce_136 : decode b_States_doAtOnce 136 = .ok (.aload_n 0, 1) := by decide +kernel
theorem d_States_doAtOnce_137 : decode b_States_doAtOnce 137 = .ok (.iconst 1, 1) := by decide +kernel
theorem d_States_doAtOnce_138 : decode b_States_doAtOnce 138 = .ok (.putfield 34, 3) := by decide +kernel
theorem d_States_doAtOnce_141 : decode b_States_doAtOnce 141 = .ok (.goto 30, 3) := by decide +kernel
theorem d_States_doAtOnce_144 : decode b_States_doAtOnce 144 = .ok (.aload_n 0, 1) := by decide +kernel
theorem d_States_doAtOnce_145 : decode b_States_doAtOnce 145 = .ok (.iconst 0, 1) := by decide +kernel
theorem d_States_doAtOnce_146 : decode b_States_doAtOnce 146 = .ok (.putfield 15, 3) := by decide +kernel
theorem d_States_doAtOnce_149 : decode b_States_doAtOnce 149 = .ok (.goto 22, 3) := by decide +kernel
theorem d_States_doAtOnce_152 : decode b_States_doAtOnce 152 = .ok (.aload_n 0, 1) := by decide +kernel
theorem d_States_doAtOnce_153 : decode b_States_doAtOnce 153 = .ok (.aload_n 0, 1) := by decide +kernel
theorem d_States_doAtOnce_154 : decode b_States_doAtOnce 154 = .ok (.getfield 9, 3) := by decide +kernel
theorem d_States_doAtOnce_157 : decode b_States_doAtOnce 157 = .ok (.putfield 15, 3) := by decide +kernel
theorem d_States_doAtOnce_160 : decode b_States_doAtOnce 160 = .ok (.goto 11, 3) := by decide +kernel
theorem d_States_doAtOnce_163 : decode b_States_doAtOnce 163 = .ok (.aload_n 0, 1) := by decide +kernel
theorem d_States_doAtOnce_164 : decode b_States_doAtOnce 164 = .ok (.iconst 1, 1) := by decide +kernel
theorem d_States_doAtOnce_165 : decode b_States_doAtOnce 165 = .ok (.putfield 37, 3) := by decide +kernel
theorem d_States_doAtOnce_168 : decode b_States_doAtOnce 168 = .ok (.goto 3, 3) := by decide +kernel
theorem d_States_doAtOnce_171 : decode b_States_doAtOnce 171 = .ok (.return_, 1) := by decide +kernel
theorem d_States_turnDouble_0 : decode b_States_turnDouble 0 = .ok (.aload_n 0, 1) := by decide +kernel
theorem d_States_turnDouble_1 : decode b_States_turnDouble 1 = .ok (.getfield 31, 3) := by decide +kernel
theorem d_States_turnDouble_4 : decode b_States_turnDouble 4 = .ok (.iload_n 1, 1) := by decide +kernel
theorem d_States_turnDouble_5 : decode b_States_turnDouble 5 = .ok (.if_icmp .eq 10, 3) := by decide +kernel
theorem d_States_turnDouble_8 : decode b_States_turnDouble 8 = .ok (.aload_n 0, 1) := by decide +kernel
theorem d_States_turnDouble_9 : decode b_States_turnDouble 9 = .ok (.bipush 32, 2) := by decide +kernel
theorem d_States_turnDouble_11 : decode b_States_turnDouble 11 = .ok (.iconst 0, 1) := by decide +kernel
theorem d_States_turnDouble_12 : decode b_States_turnDouble 12 = .ok (.invokevirtual 40, 3) := by decide +kernel
theorem d_States_turnDouble_15 : decode b_States_turnDouble 15 = .ok (.aload_n 0, 1) := by decide +kernel
theorem d_States_turnDouble_16 : decode b_States_turnDouble 16 = .ok (.iload_n 1, 1) := by decide +kernel
theorem d_States_turnDouble_17 : decode b_States_turnDouble 17 = .ok (.putfield 31, 3) := by decide +kernel
theorem d_States_turnDouble_20 : decode b_States_turnDouble 20 = .ok (.return_, 1) := by decide +kernel
theorem d_Screen_drawMark_0 : decode b_Screen_drawMark 0 = .ok (.aload_n 0, 1) := by decide +kernel
theorem d_Screen_drawMark_1 : decode b_Screen_drawMark 1 = .ok (.getfield 12, 3) := by decide +kernel
theorem d_Screen_drawMark_4 : decode b_Screen_drawMark 4 = .ok (.getfield 98, 3) := by decide +kernel
theorem d_Screen_drawMark_7 : decode b_Screen_drawMark 7 = .ok (.ifCond .eq 34, 3) := by decide +kernel
theorem d_Screen_drawMark_10 : decode b_Screen_drawMark 10 = .ok (.aload_n 0, 1) := by decide +kernel
theorem d_Screen_drawMark_11 : decode b_Screen_drawMark 11 = .ok (.getfield 12, 3) := by decide +kernel
theorem d_Screen_drawMark_14 : decode b_Screen_drawMark 14 = .ok (.getfield 101, 3) := by decide +kernel
theorem d_Screen_drawMark_17 : decode b_Screen_drawMark 17 = .ok (.ifCond .eq 24, 3) := by decide +kernel
theorem d_Screen_drawMark_20 : decode b_Screen_drawMark 20 = .ok (.aload_n 0, 1) := by decide +kernel
theorem d_Screen_drawMark_21 : decode b_Screen_drawMark 21 = .ok (.aload_n 0, 1) := by decide +kernel
theorem d_Screen_drawMark_22 : decode b_Screen_drawMark 22 = .ok (.getfield 12, 3) := by decide +kernel
theorem d_Screen_drawMark_25 : decode b_Screen_drawMark 25 = .ok (.getfield 104, 3) := by decide +kernel
theorem d_Screen_drawMark_28 : decode b_Screen_drawMark 28 = .ok (.aload_n 0, 1) := by decide +kernel
theorem d_Screen_drawMark_29 : decode b_Screen_drawMark 29 = .ok (.getfield 12, 3) := by decide +kernel
theorem d_Screen_drawMark_32 : decode b_Screen_drawMark 32 = .ok (.getfield 107, 3) := by decide +kernel
theorem d_Screen_drawMark_35 : decode b_Screen_drawMark 35 = .ok (.invokevirtual 110, 3) := by decide +kernel
theorem d_Screen_drawMark_38 : decode b_Screen_drawMark 38 = .ok (.goto 9, 3) := by decide +kernel
theorem d_Screen_drawMark_41 : decode b_Screen_drawMark 41 = .ok (.aload_n 0, 1) := by decide +kernel
theorem d_Screen_drawMark_42 : decode b_Screen_drawMark 42 = .ok (.bipush 32, 2) := by decide +kernel
theorem d_Screen_drawMark_44 : decode b_Screen_drawMark 44 = .ok (.invokevirtual 114, 3) := by decide +kernel
theorem d_Screen_drawMark_47 : decode b_Screen_drawMark 47 = .ok (.return_, 1) := by decide +kernel
theorem d_Screen_drawBlock_0 : decode b_Screen_drawBlock 0 = .ok (.aload_n 0, 1) := by decide +kernel
theorem d_Screen_drawBlock_1 : decode b_Screen_drawBlock 1 = .ok (.iload_n 1, 1) := by decide +kernel
theorem d_Screen_drawBlock_2 : decode b_Screen_drawBlock 2 = .ok (.putfield 126, 3) := by decide +kernel
theorem d_Screen_drawBlock_5 : decode b_Screen_drawBlock 5 = .ok (.aload_n 0, 1) := by decide +kernel
theorem d_Screen_drawBlock_6 : decode b_Screen_drawBlock 6 = .ok (.iload_n 2, 1) := by decide +kernel
theorem d_Screen_drawBlock_7 : decode b_Screen_drawBlock 7 = .ok (.ifCond .eq 7, 3) := by decide +kernel
theorem d_Screen_drawBlock_10 : decode b_Screen_drawBlock 10 = .ok (.iconst 3, 1) := by decide +kernel
theorem d_Screen_drawBlock_11 : decode b_Screen_drawBlock 11 = .ok (.goto 4, 3) := by decide +kernel
theorem d_Screen_drawBlock_14 : decode b_Screen_drawBlock 14 = .ok (.iconst 1, 1) := by decide +kernel
theorem d_Screen_drawBlock_15 : decode b_Screen_drawBlock 15 = .ok (.putfield 129, 3) := by decide +kernel
theorem d_Screen_drawBlock_18 : decode b_Screen_drawBlock 18 = .ok (.return_, 1) := by decide +kernel
theorem d_Screen_drawPlain_0 : decode b_Screen_drawPlain 0 = .ok (.aload_n 0, 1) := by decide +kernel
theorem d_Screen_drawPlain_1 : decode b_Screen_drawPlain 1 = .ok (.iload_n 1, 1) := by decide +kernel
theorem d_Screen_drawPlain_2 : decode b_Screen_drawPlain 2 = .ok (.putfield 126, 3) := by decide +kernel
theorem d_Screen_drawPlain_5 : decode b_Screen_drawPlain 5 = .ok (.aload_n 0, 1) := by decide +kernel
theorem d_Screen_drawPlain_6 : decode b_Screen_drawPlain 6 = .ok (.iconst 0, 1) := by decide +kernel
theorem d_Screen_drawPlain_7 : decode b_Screen_drawPlain 7 = .ok (.putfield 129, 3) := by decide +kernel
theorem d_Screen_drawPlain_10 : decode b_Screen_drawPlain 10 = .ok (.return_, 1) := by decide +kernel
theorem d_Screen_overlayAt_0 : decode b_Screen_overlayAt 0 = .ok (.iload_n 1, 1) := by decide +kernel
theorem d_Screen_overlayAt_1 : decode b_Screen_overlayAt 1 = .ok (.ifCond .ne 13, 3) := by decide +kernel
theorem d_Screen_overlayAt_4 : decode b_Screen_overlayAt 4 = .ok (.iload_n 2, 1) := by decide +kernel
theorem d_Screen_overlayAt_5 : decode b_Screen_overlayAt 5 = .ok (.bipush 8, 2) := by decide +kernel
theorem d_Screen_overlayAt_7 : decode b_Screen_overlayAt 7 = .ok (.if_icmp .ge 7, 3) := by decide +kernel
theorem d_Screen_overlayAt_10 : decode b_Screen_overlayAt 10 = .ok (.iconst 1, 1) := by decide +kernel
theorem d_Screen_overlayAt_11 : decode b_Screen_overlayAt 11 = .ok (.goto 4, 3) := by decide +kernel
theorem d_Screen_overlayAt_14 : decode b_Screen_overlayAt 14 = .ok (.iconst 0, 1) := by decide +kernel
theorem d_Screen_overlayAt_15 : decode b_Screen_overlayAt 15 = .ok (.istore_n 3, 1) := by decide +kernel
theorem d_Screen_overlayAt_16 : decode b_Screen_overlayAt 16 = .ok (.aload_n 0, 1) := by decide +kernel
theorem d_Screen_overlayAt_17 : decode b_Screen_overlayAt 17 = .ok (.ifnull 7, 3) := by decide +kernel
theorem d_Screen_overlayAt_20 : decode b_Screen_overlayAt 20 = .ok (.iload_n 3, 1) := by decide +kernel
theorem d_Screen_overlayAt_21 : decode b_Screen_overlayAt 21 = .ok (.ifCond .eq 7, 3) := by decide +kernel
theorem d_Screen_overlayAt_24 : decode b_Screen_overlayAt 24 = .ok (.iconst 0, 1) := by decide +kernel
theorem d_Screen_overlayAt_25 : decode b_Screen_overlayAt 25 = .ok (.goto 9, 3) := by decide +kernel
theorem d_Screen_overlayAt_28 : decode b_Screen_overlayAt 28 = .ok (.aload_n 0, 1) := by decide +kernel
theorem d_Screen_overlayAt_29 : decode b_Screen_overlayAt 29 = .ok (.iload_n 1, 1) := by decide +kernel
theorem d_Screen_overlayAt_30 : decode b_Screen_overlayAt 30 = .ok (.iload_n 2, 1) := by decide +kernel
theorem d_Screen_overlayAt_31 : decode b_Screen_overlayAt 31 = .ok (.invokevirtual 73, 3) := by decide +kernel
theorem d_Screen_overlayAt_34 : decode b_Screen_overlayAt 34 = .ok (.ireturn, 1) := by decide +kernel
theorem d_Page_overlayAt_0 : decode b_Page_overlayAt 0 = .ok (.iload_n 1, 1) := by decide +kernel
theorem d_Page_overlayAt_1 : decode b_Page_overlayAt 1 = .ok (.iload_n 2, 1) := by decide +kernel
theorem d_Page_overlayAt_2 : decode b_Page_overlayAt 2 = .ok (.invokestatic 50, 3) := by decide +kernel
theorem d_Page_overlayAt_5 : decode b_Page_overlayAt 5 = .ok (.ifCond .eq 17, 3) := by decide +kernel
theorem d_Page_overlayAt_8 : decode b_Page_overlayAt 8 = .ok (.aload_n 0, 1) := by decide +kernel
theorem d_Page_overlayAt_9 : decode b_Page_overlayAt 9 = .ok (.getfield 15, 3) := by decide +kernel
theorem d_Page_overlayAt_12 : decode b_Page_overlayAt 12 = .ok (.iload_n 1, 1) := by decide +kernel
theorem d_Page_overlayAt_13 : decode b_Page_overlayAt 13 = .ok (.bipush 20, 2) := by decide +kernel
theorem d_Page_overlayAt_15 : decode b_Page_overlayAt 15 = .ok (.imul, 1) := by decide +kernel
theorem d_Page_overlayAt_16 : decode b_Page_overlayAt 16 = .ok (.iload_n 2, 1) := by decide +kernel
theorem d_Page_overlayAt_17 : decode b_Page_overlayAt 17 = .ok (.iadd, 1) := by decide +kernel
theorem d_Page_overlayAt_18 : decode b_Page_overlayAt 18 = .ok (.iaload, 1) := by decide +kernel
theorem d_Page_overlayAt_19 : decode b_Page_overlayAt 19 = .ok (.goto 4, 3) := by decide +kernel
theorem d_Page_overlayAt_22 : decode b_Page_overlayAt 22 = .ok (.iconst 0, 1) := by decide +kernel
theorem d_Page_overlayAt_23 : decode b_Page_overlayAt 23 = .ok (.ireturn, 1) := by decide +kernel
theorem d_Screen_drawLetter_0 : decode b_Screen_drawLetter 0 = .ok (.iload_n 2, 1) := by decide +kernel
theorem d_Screen_drawLetter_1 : decode b_Screen_drawLetter 1 = .ok (.ifCond .eq 11, 3) := by decide +kernel
theorem d_Screen_drawLetter_4 : decode b_Screen_drawLetter 4 = .ok (.aload_n 0, 1) := by decide +kernel
theorem d_Screen_drawLetter_5 : decode b_Screen_drawLetter 5 = .ok (.iload_n 2, 1) := by decide +kernel
theorem d_Screen_drawLetter_6 : decode b_Screen_drawLetter 6 = .ok (.invokevirtual 114, 3) := by decide +kernel
theorem d_Screen_drawLetter_9 : decode b_Screen_drawLetter 9 = .ok (.goto 64, 3) := by decide +kernel
theorem d_Screen_drawLetter_12 : decode b_Screen_drawLetter 12 = .ok (.aload_n 0, 1) := by decide +kernel
theorem d_Screen_drawLetter_13 : decode b_Screen_drawLetter 13 = .ok (.getfield 12, 3) := by decide +kernel
theorem d_Screen_drawLetter_16 : decode b_Screen_drawLetter 16 = .ok (.getfield 101, 3) := by decide +kernel
theorem d_Screen_drawLetter_19 : decode b_Screen_drawLetter 19 = .ok (.ifCond .eq 45, 3) := by decide +kernel
theorem d_Screen_drawLetter_22 : decode b_Screen_drawLetter 22 = .ok (.iload_n 1, 1) := by decide +kernel
theorem d_Screen_drawLetter_23 : decode b_Screen_drawLetter 23 = .ok (.bipush 64, 2) := by decide +kernel
theorem d_Screen_drawLetter_25 : decode b_Screen_drawLetter 25 = .ok (.if_icmp .lt 9, 3) := by decide +kernel
theorem d_Screen_drawLetter_28 : decode b_Screen_drawLetter 28 = .ok (.iload_n 1, 1) := by decide +kernel
theorem d_Screen_drawLetter_29 : decode b_Screen_drawLetter 29 = .ok (.bipush 95, 2) := by decide +kernel
theorem d_Screen_drawLetter_31 : decode b_Screen_drawLetter 31 = .ok (.if_icmp .le 33, 3) := by decide +kernel
theorem d_Screen_drawLetter_34 : decode b_Screen_drawLetter 34 = .ok (.aload_n 0, 1) := by decide +kernel
theorem d_Screen_drawLetter_35 : decode b_Screen_drawLetter 35 = .ok (.getfield 12, 3) := by decide +kernel
theorem d_Screen_drawLetter_38 : decode b_Screen_drawLetter 38 = .ok (.iload_n 1, 1) := by decide +kernel
theorem d_Screen_drawLetter_39 : decode b_Screen_drawLetter 39 = .ok (.aload_n 0, 1) := by decide +kernel
theorem d_Screen_drawLetter_40 : decode b_Screen_drawLetter 40 = .ok (.getfield 12, 3) := by decide +kernel
theorem d_Screen_drawLetter_43 : decode b_Screen_drawLetter 43 = .ok (.getfield 117, 3) := by decide +kernel
theorem d_Screen_drawLetter_46 : decode b_Screen_drawLetter 46 = .ok (.invokevirtual 120, 3) := by decide +kernel
theorem d_Screen_drawLetter_49 : decode b_Screen_drawLetter 49 = .ok (.aload_n 0, 1) := by decide +kernel
theorem d_Screen_drawLetter_50 : decode b_Screen_drawLetter 50 = .ok (.iload_n 1, 1) := by decide +kernel
theorem d_Screen_drawLetter_51 : decode b_Screen_drawLetter 51 = .ok (.aload_n 0, 1) := by decide +kernel
theorem d_Screen_drawLetter_52 : decode b_Screen_drawLetter 52 = .ok (.getfield 12, 3) := by decide +kernel
theorem d_Screen_drawLetter_55 : decode b_Screen_drawLetter 55 = .ok (.getfield 117, 3) := by decide +kernel
theorem d_Screen_drawLetter_58 : decode b_Screen_drawLetter 58 = .ok (.invokevirtual 110, 3) := by decide +kernel
theorem d_Screen_drawLetter_61 : decode b_Screen_drawLetter 61 = .ok (.goto 12, 3) := by decide +kernel
theorem d_Screen_drawLetter_64 : decode b_Screen_drawLetter 64 = .ok (.aload_n 0, 1) := by decide +kernel
theorem d_Screen_drawLetter_65 : decode b_Screen_drawLetter 65 = .ok (.iload_n 1, 1) := by decide +kernel
theorem d_Screen_drawLetter_66 : decode b_Screen_drawLetter 66 = .ok (.iload_n 3, 1) := by decide +kernel
theorem d_Screen_drawLetter_67 : decode b_Screen_drawLetter 67 = .ok (.invokestatic 123, 3) := by decide +kernel
theorem d_Screen_drawLetter_70 : decode b_Screen_drawLetter 70 = .ok (.invokevirtual 114, 3) := by decide +kernel
theorem d_Screen_drawLetter_73 : decode b_Screen_drawLetter 73 = .ok (.return_, 1) := by decide +kernel
theorem d_Screen_letterOfSet_0 : decode b_Screen_letterOfSet 0 = .ok (.iload_n 0, 1) := by decide +kernel
theorem d_Screen_letterOfSet_1 : decode b_Screen_letterOfSet 1 = .ok (.invokestatic 155, 3) := by decide +kernel
theorem d_Screen_letterOfSet_4 : decode b_Screen_letterOfSet 4 = .ok (.istore_n 2, 1) := by decide +kernel
theorem d_Screen_letterOfSet_5 : decode b_Screen_letterOfSet 5 = .ok (.iload_n 1, 1) := by decide +kernel
theorem d_Screen_letterOfSet_6 : decode b_Screen_letterOfSet 6 = .ok (.ifCond .eq 8, 3) := by decide +kernel
theorem d_Screen_letterOfSet_9 : decode b_Screen_letterOfSet 9 = .ok (.iload_n 2, 1) := by decide +kernel
theorem d_Screen_letterOfSet_10 : decode b_Screen_letterOfSet 10 = .ok (.iconst (-1), 1) := by decide +kernel
theorem d_Screen_letterOfSet_11 : decode b_Screen_letterOfSet 11 = .ok (.if_icmp .ne 7, 3) := by decide +kernel
theorem d_Screen_letterOfSet_14 : decode b_Screen_letterOfSet 14 = .ok (.iload_n 0, 1) := by decide +kernel
theorem d_Screen_letterOfSet_15 : decode b_Screen_letterOfSet 15 = .ok (.goto 13, 3) := by decide +kernel
theorem d_Screen_letterOfSet_18 : decode b_Screen_letterOfSet 18 = .ok (.sipush 512, 3) := by decide +kernel
theorem d_Screen_letterOfSet_21 : decode b_Screen_letterOfSet 21 = .ok (.bipush 16, 2) := by decide +kernel
theorem d_Screen_letterOfSet_23 : decode b_Screen_letterOfSet 23 = .ok (.iload_n 1, 1) := by decide +kernel
theorem d_Screen_letterOfSet_24 : decode b_Screen_letterOfSet 24 = .ok (.imul, 1) := by decide +kernel
theorem d_Screen_letterOfSet_25 : decode b_Screen_letterOfSet 25 = .ok (.iadd, 1) := by decide +kernel
theorem d_Screen_letterOfSet_26 : decode b_Screen_letterOfSet 26 = .ok (.iload_n 2, 1) := by decide +kernel
theorem d_Screen_letterOfSet_27 : decode b_Screen_letterOfSet 27 = .ok (.iadd, 1) := by decide +kernel
theorem d_Screen_letterOfSet_28 : decode b_Screen_letterOfSet 28 = .ok (.ireturn, 1) := by decide +kernel
theorem d_Screen_indexInSet_0 : decode b_Screen_indexInSet 0 = .ok (.iload_n 0, 1) := by decide +kernel
theorem d_Screen_indexInSet_1 : decode b_Screen_indexInSet 1 = .ok (.bipush 35, 2) := by decide +kernel
theorem d_Screen_indexInSet_3 : decode b_Screen_indexInSet 3 = .ok (.if_icmp .eq 9, 3) := by decide +kernel
theorem d_Screen_indexInSet_6 : decode b_Screen_indexInSet 6 = .ok (.iload_n 0, 1) := by decide +kernel
theorem d_Screen_indexInSet_7 : decode b_Screen_indexInSet 7 = .ok (.bipush 36, 2) := by decide +kernel
theorem d_Screen_indexInSet_9 : decode b_Screen_indexInSet 9 = .ok (.if_icmp .ne 8, 3) := by decide +kernel
theorem d_Screen_indexInSet_12 : decode b_Screen_indexInSet 12 = .ok (.iload_n 0, 1) := by decide +kernel
theorem d_Screen_indexInSet_13 : decode b_Screen_indexInSet 13 = .ok (.bipush 35, 2) := by decide +kernel
theorem d_Screen_indexInSet_15 : decode b_Screen_indexInSet 15 = .ok (.isub, 1) := by decide +kernel
theorem d_Screen_indexInSet_16 : decode b_Screen_indexInSet 16 = .ok (.ireturn, 1) := by decide +kernel
theorem d_Screen_indexInSet_17 : decode b_Screen_indexInSet 17 = .ok (.iload_n 0, 1) := by decide +kernel
theorem d_Screen_indexInSet_18 : decode b_Screen_indexInSet 18 = .ok (.bipush 64, 2) := by decide +kernel
theorem d_Screen_indexInSet_20 : decode b_Screen_indexInSet 20 = .ok (.if_icmp .ne 5, 3) := by decide +kernel
theorem d_Screen_indexInSet_23 : decode b_Screen_indexInSet 23 = .ok (.iconst 2, 1) := by decide +kernel
theorem d_Screen_indexInSet_24 : decode b_Screen_indexInSet 24 = .ok (.ireturn, 1) := by decide +kernel
theorem d_Screen_indexInSet_25 : decode b_Screen_indexInSet 25 = .ok (.iload_n 0, 1) := by decide +kernel
theorem d_Screen_indexInSet_26 : decode b_Screen_indexInSet 26 = .ok (.bipush 91, 2) := by decide +kernel
theorem d_Screen_indexInSet_28 : decode b_Screen_indexInSet 28 = .ok (.if_icmp .lt 14, 3) := by decide +kernel
theorem d_Screen_indexInSet_31 : decode b_Screen_indexInSet 31 = .ok (.iload_n 0, 1) := by decide +kernel
theorem d_Screen_indexInSet_32 : decode b_Screen_indexInSet 32 = .ok (.bipush 96, 2) := by decide +kernel
theorem d_Screen_indexInSet_34 : decode b_Screen_indexInSet 34 = .ok (.if_icmp .gt 8, 3) := by decide +kernel
theorem d_Screen_indexInSet_37 : decode b_Screen_indexInSet 37 = .ok (.iload_n 0, 1) := by decide +kernel
theorem d_Screen_indexInSet_38 : decode b_Screen_indexInSet 38 = .ok (.bipush 88, 2) := by decide +kernel
theorem d_Screen_indexInSet_40 : decode b_Screen_indexInSet 40 = .ok (.isub, 1) := by decide +kernel
theorem d_Screen_indexInSet_41 : decode b_Screen_indexInSet 41 = .ok (.ireturn, 1) := by decide +kernel
theorem d_Screen_indexInSet_42 : decode b_Screen_indexInSet 42 = .ok (.iload_n 0, 1) := by decide +kernel
theorem d_Screen_indexInSet_43 : decode b_Screen_indexInSet 43 = .ok (.bipush 123, 2) := by decide +kernel
theorem d_Screen_indexInSet_45 : decode b_Screen_indexInSet 45 = .ok (.if_icmp .lt 16, 3) := by decide +kernel
theorem d_Screen_indexInSet_48 : decode b_Screen_indexInSet 48 = .ok (.iload_n 0, 1) := by decide +kernel
theorem d_Screen_indexInSet_49 : decode b_Screen_indexInSet 49 = .ok (.bipush 126, 2) := by decide +kernel
theorem d_Screen_indexInSet_51 : decode b_Screen_indexInSet 51 = .ok (.if_icmp .gt 10, 3) := by decide +kernel
theorem d_Screen_indexInSet_54 : decode b_Screen_indexInSet 54 = .ok (.iload_n 0, 1) := by decide +kernel
theorem d_Screen_indexInSet_55 : decode b_Screen_indexInSet 55 = .ok (.bipush 114, 2) := by decide +kernel
theorem d_Screen_indexInSet_57 : decode b_Screen_indexInSet 57 = .ok (.isub, 1) := by decide +kernel
theorem d_Screen_indexInSet_58 : decode b_Screen_indexInSet 58 = .ok (.goto 4, 3) := by decide +kernel
theorem d_Screen_indexInSet_61 : decode b_Screen_indexInSet 61 = .ok (.iconst (-1), 1) := by decide +kernel
theorem d_Screen_indexInSet_62 : decode b_Screen_indexInSet 62 = .ok (.ireturn, 1) := by decide +kernel
theorem d_Screen_drawStates_0 : decode b_Screen_drawStates 0 = .ok (.aload_n 0, 1) := by decide +kernel
theorem d_Screen_drawStates_1 : decode b_Screen_drawStates 1 = .ok (.getfield 12, 3) := by decide +kernel
theorem d_Screen_drawStates_4 : decode b_Screen_drawStates 4 = .ok (.getfield 132, 3) := by decide +kernel
theorem d_Screen_drawStates_7 : decode b_Screen_drawStates 7 = .ok (.ifCond .eq 14, 3) := by decide +kernel
theorem d_Screen_drawStates_10 : decode b_Screen_drawStates 10 = .ok (.aload_n 0, 1) := by decide +kernel
theorem d_Screen_drawStates_11 : decode b_Screen_drawStates 11 = .ok (.getfield 18, 3) := by decide +kernel
theorem d_Screen_drawStates_14 : decode b_Screen_drawStates 14 = .ok (.ifCond .ne 7, 3) := by decide +kernel
theorem d_Screen_drawStates_17 : decode b_Screen_drawStates 17 = .ok (.iconst 1, 1) := by decide +kernel
theorem d_Screen_drawStates_18 : decode b_Screen_drawStates 18 = .ok (.goto 4, 3) := by decide +kernel
theorem d_Screen_drawStates_21 : decode b_Screen_drawStates 21 = .ok (.iconst 0, 1) := by decide +kernel
theorem d_Screen_drawStates_22 : decode b_Screen_drawStates 22 = .ok (.istore_n 2, 1) := by decide +kernel
theorem d_Screen_drawStates_23 : decode b_Screen_drawStates 23 = .ok (.iload_n 2, 1) := by decide +kernel
theorem d_Screen_drawStates_24 : decode b_Screen_drawStates 24 = .ok (.ifCond .ne 23, 3) := by decide +kernel
theorem d_Screen_drawStates_27 : decode b_Screen_drawStates 27 = .ok (.aload_n 0, 1) := by decide +kernel
theorem d_Screen_drawStates_28 : decode b_Screen_drawStates 28 = .ok (.getfield 12, 3) := by decide +kernel
theorem d_Screen_drawStates_31 : decode b_Screen_drawStates 31 = .ok (.getfield 135, 3) := by decide +kernel
theorem d_Screen_drawStates_34 : decode b_Screen_drawStates 34 = .ok (.ifCond .eq 19, 3) := by decide +kernel
theorem d_Screen_drawStates_37 : decode b_Screen_drawStates 37 = .ok (.aload_n 0, 1) := by decide +kernel
theorem d_Screen_drawStates_38 : decode b_Screen_drawStates 38 = .ok (.getfield 22, 3) := by decide +kernel
theorem d_Screen_drawStates_41 : decode b_Screen_drawStates 41 = .ok (.getfield 138, 3) := by decide +kernel
theorem d_Screen_drawStates_44 : decode b_Screen_drawStates 44 = .ok (.ifCond .ne 9, 3) := by decide +kernel
theorem d_Screen_drawStates_47 : decode b_Screen_drawStates 47 = .ok (.aload_n 0, 1) := by decide +kernel
theorem d_Screen_drawStates_48 : decode b_Screen_drawStates 48 = .ok (.bipush 32, 2) := by decide +kernel
theorem d_Screen_drawStates_50 : decode b_Screen_drawStates 50 = .ok (.invokevirtual 114, 3) := by decide +kernel
theorem d_Screen_drawStates_53 : decode b_Screen_drawStates 53 = .ok (.aload_n 0, 1) := by decide +kernel
theorem d_Screen_drawStates_54 : decode b_Screen_drawStates 54 = .ok (.aload_n 0, 1) := by decide +kernel
theorem d_Screen_drawStates_55 : decode b_Screen_drawStates 55 = .ok (.getfield 12, 3) := by decide +kernel
theorem d_Screen_drawStates_58 : decode b_Screen_drawStates 58 = .ok (.getfield 141, 3) := by decide +kernel
theorem d_Screen_drawStates_61 : decode b_Screen_drawStates 61 = .ok (.putfield 144, 3) := by decide +kernel
theorem d_Screen_drawStates_64 : decode b_Screen_drawStates 64 = .ok (.aload_n 0, 1) := by decide +kernel
theorem d_Screen_drawStates_65 : decode b_Screen_drawStates 65 = .ok (.aload_n 0, 1) := by decide +kernel
theorem d_Screen_drawStates_66 : decode b_Screen_drawStates 66 = .ok (.getfield 12, 3) := by decide +kernel
theorem d_Screen_drawStates_69 : decode b_Screen_drawStates 69 = .ok (.getfield 145, 3) := by decide +kernel
theorem d_Screen_drawStates_72 : decode b_Screen_drawStates 72 = .ok (.putfield 148, 3) := by decide +kernel
theorem d_Screen_drawStates_75 : decode b_Screen_drawStates 75 = .ok (.aload_n 0, 1) := by decide +kernel
theorem d_Screen_drawStates_76 : decode b_Screen_drawStates 76 = .ok (.dup, 1) := by decide +kernel
theorem d_Screen_drawStates_77 : decode b_Screen_drawStates 77 = .ok (.getfield 129, 3) := by decide +kernel
theorem d_Screen_drawStates_80 : decode b_Screen_drawStates 80 = .ok (.aload_n 0, 1) := by decide +kernel
theorem d_Screen_drawStates_81 : decode b_Screen_drawStates 81 = .ok (.getfield 12, 3) := by decide +kernel
theorem d_Screen_drawStates_84 : decode b_Screen_drawStates 84 = .ok (.invokevirtual 149, 3) := by decide +kernel
theorem d_Screen_drawStates_87 : decode b_Screen_drawStates 87 = .ok (.iadd, 1) := by decide +kernel
theorem d_Screen_drawStates_88 : decode b_Screen_drawStates 88 = .ok (.putfield 129, 3) := by decide +kernel
theorem d_Screen_drawStates_91 : decode b_Screen_drawStates 91 = .ok (.aload_n 0, 1) := by decide +kernel
theorem d_Screen_drawStates_92 : decode b_Screen_drawStates 92 = .ok (.getfield 12, 3) := by decide +kernel
theorem d_Screen_drawStates_95 : decode b_Screen_drawStates 95 = .ok (.getfield 152, 3) := by decide +kernel
theorem d_Screen_drawStates_98 : decode b_Screen_drawStates 98 = .ok (.ifCond .eq 23, 3) := by decide +kernel
theorem d_Screen_drawStates_101 : decode b_Screen_drawStates 101 = .ok (.iload_n 1, 1) := by decide +kernel
theorem d_Screen_drawStates_102 : decode b_Screen_drawStates 102 = .ok (.ifCond .le 19, 3) := by decide +kernel
theorem d_Screen_drawStates_105 : decode b_Screen_drawStates 105 = .ok (.iload_n 1, 1) := by decide +kernel
theorem d_Screen_drawStates_106 : decode b_Screen_drawStates 106 = .ok (.bipush 7, 2) := by decide +kernel
theorem d_Screen_drawStates_108 : decode b_Screen_drawStates 108 = .ok (.if_icmp .ge 13, 3) := by decide +kernel
theorem d_Screen_drawStates_111 : decode b_Screen_drawStates 111 = .ok (.aload_n 0, 1) := by decide +kernel
theorem d_Screen_drawStates_112 : decode b_Screen_drawStates 112 = .ok (.dup, 1) := by decide +kernel
theorem d_Screen_drawStates_113 : decode b_Screen_drawStates 113 = .ok (.getfield 129, 3) := by decide +kernel
theorem d_Screen_drawStates_116 : decode b_Screen_drawStates 116 = .ok (.iconst 4, 1) := by decide +kernel
theorem d_Screen_drawStates_117 : decode b_Screen_drawStates 117 = .ok (.iadd, 1) := by decide +kernel
theorem d_Screen_drawStates_118 : decode b_Screen_drawStates 118 = .ok (.putfield 129, 3) := by decide +kernel
theorem d_Screen_drawStates_121 : decode b_Screen_drawStates 121 = .ok (.return_, 1) := by decide +kernel
theorem d_States_sum_0 : decode b_States_sum 0 = .ok (.aload_n 0, 1) := by decide +kernel
theorem d_States_sum_1 : decode b_States_sum 1 = .ok (.getfield 22, 3) := by decide +kernel
theorem d_States_sum_4 : decode b_States_sum 4 = .ok (.ifCond .eq 8, 3) := by decide +kernel
theorem d_States_sum_7 : decode b_States_sum 7 = .ok (.bipush 16, 2) := by decide +kernel
theorem d_States_sum_9 : decode b_States_sum 9 = .ok (.goto 4, 3) := by decide +kernel
theorem d_States_sum_12 : decode b_States_sum 12 = .ok (.iconst 0, 1) := by decide +kernel
theorem d_States_sum_13 : decode b_States_sum 13 = .ok (.aload_n 0, 1) := by decide +kernel
theorem d_States_sum_14 : decode b_States_sum 14 = .ok (.getfield 25, 3) := by decide +kernel
theorem d_States_sum_17 : decode b_States_sum 17 = .ok (.ifCond .eq 8, 3) := by decide +kernel
theorem d_States_sum_20 : decode b_States_sum 20 = .ok (.bipush 32, 2) := by decide +kernel
theorem d_States_sum_22 : decode b_States_sum 22 = .ok (.goto 4, 3) := by decide +kernel
theorem d_States_sum_25 : decode b_States_sum 25 = .ok (.iconst 0, 1) := by decide +kernel
theorem d_States_sum_26 : decode b_States_sum 26 = .ok (.iadd, 1) := by decide +kernel
theorem d_States_sum_27 : decode b_States_sum 27 = .ok (.aload_n 0, 1) := by decide +kernel
theorem d_States_sum_28 : decode b_States_sum 28 = .ok (.getfield 28, 3) := by decide +kernel
theorem d_States_sum_31 : decode b_States_sum 31 = .ok (.ifCond .eq 8, 3) := by decide +kernel
theorem d_States_sum_34 : decode b_States_sum 34 = .ok (.bipush 64, 2) := by decide +kernel
theorem d_States_sum_36 : decode b_States_sum 36 = .ok (.goto 4, 3) := by decide +kernel
theorem d_States_sum_39 : decode b_States_sum 39 = .ok (.iconst 0, 1) := by decide +kernel
theorem d_States_sum_40 : decode b_States_sum 40 = .ok (.iadd, 1) := by decide +kernel
theorem d_States_sum_41 : decode b_States_sum 41 = .ok (.ireturn, 1) := by decide +kernel
theorem d_States_doAfter_0 : decode b_States_doAfter 0 = .ok (.iload_n 1, 1) := by decide +kernel
theorem d_States_doAfter_1 : decode b_States_doAfter 1 = .ok (.bipush 7, 2) := by decide +kernel
theorem d_States_doAfter_3 : decode b_States_doAfter 3 = .ok (.if_icmp .gt 12, 3) := by decide +kernel
theorem d_States_doAfter_6 : decode b_States_doAfter 6 = .ok (.aload_n 0, 1) := by decide +kernel
theorem d_States_doAfter_7 : decode b_States_doAfter 7 = .ok (.iload_n 1, 1) := by decide +kernel
theorem d_States_doAfter_8 : decode b_States_doAfter 8 = .ok (.iconst 0, 1) := by decide +kernel
theorem d_States_doAfter_9 : decode b_States_doAfter 9 = .ok (.invokevirtual 54, 3) := by decide +kernel
theorem d_States_doAfter_12 : decode b_States_doAfter 12 = .ok (.goto 94, 3) := by decide +kernel
theorem d_States_doAfter_15 : decode b_States_doAfter 15 = .ok (.iload_n 1, 1) := by decide +kernel
theorem d_States_doAfter_16 : decode b_States_doAfter 16 = .ok (.bipush 16, 2) := by decide +kernel
theorem d_States_doAfter_18 : decode b_States_doAfter 18 = .ok (.if_icmp .lt 21, 3) := by decide +kernel
theorem d_States_doAfter_21 : decode b_States_doAfter 21 = .ok (.iload_n 1, 1) := by decide +kernel
theorem d_States_doAfter_22 : decode b_States_doAfter 22 = .ok (.bipush 23, 2) := by decide +kernel
theorem d_States_doAfter_24 : decode b_States_doAfter 24 = .ok (.if_icmp .gt 15, 3) := by decide +kernel
theorem d_States_doAfter_27 : decode b_States_doAfter 27 = .ok (.aload_n 0, 1) := by decide +kernel
theorem d_States_doAfter_28 : decode b_States_doAfter 28 = .ok (.iload_n 1, 1) := by decide +kernel
theorem d_States_doAfter_29 : decode b_States_doAfter 29 = .ok (.bipush 16, 2) := by decide +kernel
theorem d_States_doAfter_31 : decode b_States_doAfter 31 = .ok (.isub, 1) := by decide +kernel
theorem d_States_doAfter_32 : decode b_States_doAfter 32 = .ok (.iconst 1, 1) := by decide +kernel
theorem d_States_doAfter_33 : decode b_States_doAfter 33 = .ok (.invokevirtual 54, 3) := by decide +kernel
theorem d_States_doAfter_36 : decode b_States_doAfter 36 = .ok (.goto 70, 3) := by decide +kernel
theorem d_States_doAfter_39 : decode b_States_doAfter 39 = .ok (.iload_n 1, 1) := by decide +kernel
theorem d_States_doAfter_40 : decode b_States_doAfter 40 = .ok (.bipush 8, 2) := by decide +kernel
theorem d_States_doAfter_42 : decode b_States_doAfter 42 = .ok (.if_icmp .ne 11, 3) := by decide +kernel
theorem d_States_doAfter_45 : decode b_States_doAfter 45 = .ok (.aload_n 0, 1) := by decide +kernel
theorem d_States_doAfter_46 : decode b_States_doAfter 46 = .ok (.iconst 1, 1) := by decide +kernel
theorem d_States_doAfter_47 : decode b_States_doAfter 47 = .ok (.putfield 22, 3) := by decide +kernel
theorem d_States_doAfter_50 : decode b_States_doAfter 50 = .ok (.goto 56, 3) := by decide +kernel
theorem d_States_doAfter_53 : decode b_States_doAfter 53 = .ok (.iload_n 1, 1) := by decide +kernel
theorem d_States_doAfter_54 : decode b_States_doAfter 54 = .ok (.bipush 10, 2) := by decide +kernel
theorem d_States_doAfter_56 : decode b_States_doAfter 56 = .ok (.if_icmp .ne 11, 3) := by decide +kernel
theorem d_States_doAfter_59 : decode b_States_doAfter 59 = .ok (.aload_n 0, 1) := by decide +kernel
theorem d_States_doAfter_60 : decode b_States_doAfter 60 = .ok (.iconst 0, 1) := by decide +kernel
theorem d_States_doAfter_61 : decode b_States_doAfter 61 = .ok (.putfield 28, 3) := by decide +kernel
theorem d_States_doAfter_64 : decode b_States_doAfter 64 = .ok (.goto 42, 3) := by decide +kernel
theorem d_States_doAfter_67 : decode b_States_doAfter 67 = .ok (.iload_n 1, 1) := by decide +kernel
theorem d_States_doAfter_68 : decode b_States_doAfter 68 = .ok (.bipush 11, 2) := by decide +kernel
theorem d_States_doAfter_70 : decode b_States_doAfter 70 = .ok (.if_icmp .ne 11, 3) := by decide +kernel
theorem d_States_doAfter_73 : decode b_States_doAfter 73 = .ok (.aload_n 0, 1) := by decide +kernel
theorem d_States_doAfter_74 : decode b_States_doAfter 74 = .ok (.iconst 1, 1) := by decide +kernel
theorem d_States_doAfter_75 : decode b_States_doAfter 75 = .ok (.putfield 28, 3) := by decide +kernel
theorem d_States_doAfter_78 : decode b_States_doAfter 78 = .ok (.goto 28, 3) := by decide +kernel
theorem d_States_doAfter_81 : decode b_States_doAfter 81 = .ok (.iload_n 1, 1) := by decide +kernel
theorem d_States_doAfter_82 : decode b_States_doAfter 82 = .ok (.bipush 13, 2) := by decide +kernel
theorem d_States_doAfter_84 : decode b_States_doAfter 84 = .ok (.if_icmp .ne 11, 3) := by decide +kernel
theorem d_States_doAfter_87 : decode b_States_doAfter 87 = .ok (.aload_n 0, 1) := by decide +kernel
theorem d_States_doAfter_88 : decode b_States_doAfter 88 = .ok (.iconst 1, 1) := by decide +kernel
theorem d_States_doAfter_89 : decode b_States_doAfter 89 = .ok (.invokevirtual 50, 3) := by decide +kernel
theorem d_States_doAfter_92 : decode b_States_doAfter 92 = .ok (.goto 14, 3) := by decide +kernel
theorem d_States_doAfter_95 : decode b_States_doAfter 95 = .ok (.iload_n 1, 1) := by decide +kernel
theorem d_States_doAfter_96 : decode b_States_doAfter 96 = .ok (.bipush 31, 2) := by decide +kernel
theorem d_States_doAfter_98 : decode b_States_doAfter 98 = .ok (.if_icmp .ne 8, 3) := by decide +kernel
theorem d_States_doAfter_101 : decode b_States_doAfter 101 = .ok (.aload_n 0, 1) := by decide +kernel
theorem d_States_doAfter_102 : decode b_States_doAfter 102 = .ok (.iconst 0, 1) := by decide +kernel
theorem d_States_doAfter_103 : decode b_States_doAfter 103 = .ok (.putfield 37, 3) := by decide +kernel
theorem d_States_doAfter_106 : decode b_States_doAfter 106 = .ok (.return_, 1) := by decide +kernel
theorem d_States_takeColour_0 : decode b_States_takeColour 0 = .ok (.aload_n 0, 1) := by decide +kernel
theorem d_States_takeColour_1 : decode b_States_takeColour 1 = .ok (.iload_n 1, 1) := by decide +kernel
theorem d_States_takeColour_2 : decode b_States_takeColour 2 = .ok (.putfield 9, 3) := by decide +kernel
theorem d_States_takeColour_5 : decode b_States_takeColour 5 = .ok (.aload_n 0, 1) := by decide +kernel
theorem d_States_takeColour_6 : decode b_States_takeColour 6 = .ok (.iload_n 2, 1) := by decide +kernel
theorem d_States_takeColour_7 : decode b_States_takeColour 7 = .ok (.invokevirtual 57, 3) := by decide +kernel
theorem d_States_takeColour_10 : decode b_States_takeColour 10 = .ok (.aload_n 0, 1) := by decide +kernel
theorem d_States_takeColour_11 : decode b_States_takeColour 11 = .ok (.iconst 0, 1) := by decide +kernel
theorem d_States_takeColour_12 : decode b_States_takeColour 12 = .ok (.putfield 25, 3) := by decide +kernel
theorem d_States_takeColour_15 : decode b_States_takeColour 15 = .ok (.return_, 1) := by decide +kernel
theorem d_States_turnMosaic_0 : decode b_States_turnMosaic 0 = .ok (.aload_n 0, 1) := by decide +kernel
theorem d_States_turnMosaic_1 : decode b_States_turnMosaic 1 = .ok (.getfield 18, 3) := by decide +kernel
theorem d_States_turnMosaic_4 : decode b_States_turnMosaic 4 = .ok (.iload_n 1, 1) := by decide +kernel
theorem d_States_turnMosaic_5 : decode b_States_turnMosaic 5 = .ok (.if_icmp .eq 10, 3) := by decide +kernel
theorem d_States_turnMosaic_8 : decode b_States_turnMosaic 8 = .ok (.aload_n 0, 1) := by decide +kernel
theorem d_States_turnMosaic_9 : decode b_States_turnMosaic 9 = .ok (.bipush 32, 2) := by decide +kernel
theorem d_States_turnMosaic_11 : decode b_States_turnMosaic 11 = .ok (.iconst 0, 1) := by decide +kernel
theorem d_States_turnMosaic_12 : decode b_States_turnMosaic 12 = .ok (.invokevirtual 40, 3) := by decide +kernel
theorem d_States_turnMosaic_15 : decode b_States_turnMosaic 15 = .ok (.aload_n 0, 1) := by decide +kernel
theorem d_States_turnMosaic_16 : decode b_States_turnMosaic 16 = .ok (.iload_n 1, 1) := by decide +kernel
theorem d_States_turnMosaic_17 : decode b_States_turnMosaic 17 = .ok (.putfield 18, 3) := by decide +kernel
theorem d_States_turnMosaic_20 : decode b_States_turnMosaic 20 = .ok (.return_, 1) := by decide +kernel
theorem d_Screen_turnToLowerHalf_0 : decode b_Screen_turnToLowerHalf 0 = .ok (.aload_n 0, 1) := by decide +kernel
theorem d_Screen_turnToLowerHalf_1 : decode b_Screen_turnToLowerHalf 1 = .ok (.getfield 129, 3) := by decide +kernel
theorem d_Screen_turnToLowerHalf_4 : decode b_Screen_turnToLowerHalf 4 = .ok (.iconst 4, 1) := by decide +kernel
theorem d_Screen_turnToLowerHalf_5 : decode b_Screen_turnToLowerHalf 5 = .ok (.iand, 1) := by decide +kernel
theorem d_Screen_turnToLowerHalf_6 : decode b_Screen_turnToLowerHalf 6 = .ok (.ifCond .eq 16, 3) := by decide +kernel
theorem d_Screen_turnToLowerHalf_9 : decode b_Screen_turnToLowerHalf 9 = .ok (.aload_n 0, 1) := by decide +kernel
theorem d_Screen_turnToLowerHalf_10 : decode b_Screen_turnToLowerHalf 10 = .ok (.dup, 1) := by decide +kernel
theorem d_Screen_turnToLowerHalf_11 : decode b_Screen_turnToLowerHalf 11 = .ok (.getfield 129, 3) := by decide +kernel
theorem d_Screen_turnToLowerHalf_14 : decode b_Screen_turnToLowerHalf 14 = .ok (.iconst 4, 1) := by decide +kernel
theorem d_Screen_turnToLowerHalf_15 : decode b_Screen_turnToLowerHalf 15 = .ok (.iadd, 1) := by decide +kernel
theorem d_Screen_turnToLowerHalf_16 : decode b_Screen_turnToLowerHalf 16 = .ok (.putfield 129, 3) := by decide +kernel
theorem d_Screen_turnToLowerHalf_19 : decode b_Screen_turnToLowerHalf 19 = .ok (.goto 20, 3) := by decide +kernel
theorem d_Screen_turnToLowerHalf_22 : decode b_Screen_turnToLowerHalf 22 = .ok (.aload_n 0, 1) := by decide +kernel
theorem d_Screen_turnToLowerHalf_23 : decode b_Screen_turnToLowerHalf 23 = .ok (.bipush 32, 2) := by decide +kernel
theorem d_Screen_turnToLowerHalf_25 : decode b_Screen_turnToLowerHalf 25 = .ok (.putfield 126, 3) := by decide +kernel
theorem d_Screen_turnToLowerHalf_28 : decode b_Screen_turnToLowerHalf 28 = .ok (.aload_n 0, 1) := by decide +kernel
theorem d_Screen_turnToLowerHalf_29 : decode b_Screen_turnToLowerHalf 29 = .ok (.dup, 1) := by decide +kernel
theorem d_Screen_turnToLowerHalf_30 : decode b_Screen_turnToLowerHalf 30 = .ok (.getfield 129, 3) := by decide +kernel
theorem d_Screen_turnToLowerHalf_33 : decode b_Screen_turnToLowerHalf 33 = .ok (.bipush 64, 2) := by decide +kernel
theorem d_Screen_turnToLowerHalf_35 : decode b_Screen_turnToLowerHalf 35 = .ok (.iand, 1) := by decide +kernel
theorem d_Screen_turnToLowerHalf_36 : decode b_Screen_turnToLowerHalf 36 = .ok (.putfield 129, 3) := by decide +kernel
theorem d_Screen_turnToLowerHalf_39 : decode b_Screen_turnToLowerHalf 39 = .ok (.return_, 1) := by decide +kernel
theorem d_Recv_point_0 : decode b_Recv_point 0 = .ok (.iload_n 1, 1) := by decide +kernel
theorem d_Recv_point_1 : decode b_Recv_point 1 = .ok (.iload_n 2, 1) := by decide +kernel
theorem d_Recv_point_2 : decode b_Recv_point 2 = .ok (.invokestatic 133, 3) := by decide +kernel
theorem d_Recv_point_5 : decode b_Recv_point 5 = .ok (.ifCond .eq 23, 3) := by decide +kernel
theorem d_Recv_point_8 : decode b_Recv_point 8 = .ok (.iload_n 3, 1) := by decide +kernel
theorem d_Recv_point_9 : decode b_Recv_point 9 = .ok (.ifCond .lt 19, 3) := by decide +kernel
theorem d_Recv_point_12 : decode b_Recv_point 12 = .ok (.iload_n 3, 1) := by decide +kernel
theorem d_Recv_point_13 : decode b_Recv_point 13 = .ok (.iconst 3, 1) := by decide +kernel
theorem d_Recv_point_14 : decode b_Recv_point 14 = .ok (.if_icmp .gt 14, 3) := by decide +kernel
theorem d_Recv_point_17 : decode b_Recv_point 17 = .ok (.iload 4, 2) := by decide +kernel
theorem d_Recv_point_19 : decode b_Recv_point 19 = .ok (.ifCond .lt 9, 3) := by decide +kernel
theorem d_Recv_point_22 : decode b_Recv_point 22 = .ok (.iload 4, 2) := by decide +kernel
theorem d_Recv_point_24 : decode b_Recv_point 24 = .ok (.iconst 5, 1) := by decide +kernel
theorem d_Recv_point_25 : decode b_Recv_point 25 = .ok (.if_icmp .le 5, 3) := by decide +kernel
theorem d_Recv_point_28 : decode b_Recv_point 28 = .ok (.iconst (-1), 1) := by decide +kernel
theorem d_Recv_point_29 : decode b_Recv_point 29 = .ok (.ireturn, 1) := by decide +kernel
theorem d_Recv_point_30 : decode b_Recv_point 30 = .ok (.aload_n 0, 1) := by decide +kernel
theorem d_Recv_point_31 : decode b_Recv_point 31 = .ok (.getfield 66, 3) := by decide +kernel
theorem d_Recv_point_34 : decode b_Recv_point 34 = .ok (.iload_n 1, 1) := by decide +kernel
theorem d_Recv_point_35 : decode b_Recv_point 35 = .ok (.iload_n 2, 1) := by decide +kernel
theorem d_Recv_point_36 : decode b_Recv_point 36 = .ok (.invokevirtual 137, 3) := by decide +kernel
theorem d_Recv_point_39 : decode b_Recv_point 39 = .ok (.aload_n 0, 1) := by decide +kernel
theorem d_Recv_point_40 : decode b_Recv_point 40 = .ok (.getfield 66, 3) := by decide +kernel
theorem d_Recv_point_43 : decode b_Recv_point 43 = .ok (.iload_n 3, 1) := by decide +kernel
theorem d_Recv_point_44 : decode b_Recv_point 44 = .ok (.iload 4, 2) := by decide +kernel
theorem d_Recv_point_46 : decode b_Recv_point 46 = .ok (.invokevirtual 153, 3) := by decide +kernel
theorem d_Recv_point_49 : decode b_Recv_point 49 = .ok (.ireturn, 1) := by decide +kernel
theorem d_Screen_colourAt_0 : decode b_Screen_colourAt 0 = .ok (.iload_n 2, 1) := by decide +kernel
theorem d_Screen_colourAt_1 : decode b_Screen_colourAt 1 = .ok (.istore_n 3, 1) := by decide +kernel
theorem d_Screen_colourAt_2 : decode b_Screen_colourAt 2 = .ok (.aload_n 0, 1) := by decide +kernel
theorem d_Screen_colourAt_3 : decode b_Screen_colourAt 3 = .ok (.getfield 129, 3) := by decide +kernel
theorem d_Screen_colourAt_6 : decode b_Screen_colourAt 6 = .ok (.iconst 4, 1) := by decide +kernel
theorem d_Screen_colourAt_7 : decode b_Screen_colourAt 7 = .ok (.iand, 1) := by decide +kernel
theorem d_Screen_colourAt_8 : decode b_Screen_colourAt 8 = .ok (.ifCond .eq 10, 3) := by decide +kernel
theorem d_Screen_colourAt_11 : decode b_Screen_colourAt 11 = .ok (.iload_n 2, 1) := by decide +kernel
theorem d_Screen_colourAt_12 : decode b_Screen_colourAt 12 = .ok (.iconst 2, 1) := by decide +kernel
theorem d_Screen_colourAt_13 : decode b_Screen_colourAt 13 = .ok (.idiv, 1) := by decide +kernel
theorem d_Screen_colourAt_14 : decode b_Screen_colourAt 14 = .ok (.istore_n 3, 1) := by decide +kernel
theorem d_Screen_colourAt_15 : decode b_Screen_colourAt 15 = .ok (.goto 19, 3) := by decide +kernel
theorem d_Screen_colourAt_18 : decode b_Screen_colourAt 18 = .ok (.aload_n 0, 1) := by decide +kernel
theorem d_Screen_colourAt_19 : decode b_Screen_colourAt 19 = .ok (.getfield 129, 3) := by decide +kernel
theorem d_Screen_colourAt_22 : decode b_Screen_colourAt 22 = .ok (.bipush 8, 2) := by decide +kernel
theorem d_Screen_colourAt_24 : decode b_Screen_colourAt 24 = .ok (.iand, 1) := by decide +kernel
theorem d_Screen_colourAt_25 : decode b_Screen_colourAt 25 = .ok (.ifCond .eq 9, 3) := by decide +kernel
theorem d_Screen_colourAt_28 : decode b_Screen_colourAt 28 = .ok (.iconst 3, 1) := by decide +kernel
theorem d_Screen_colourAt_29 : decode b_Screen_colourAt 29 = .ok (.iload_n 2, 1) := by decide +kernel
theorem d_Screen_colourAt_30 : decode b_Screen_colourAt 30 = .ok (.iconst 2, 1) := by decide +kernel
theorem d_Screen_colourAt_31 : decode b_Screen_colourAt 31 = .ok (.idiv, 1) := by decide +kernel
theorem d_Screen_colourAt_32 : decode b_Screen_colourAt 32 = .ok (.iadd, 1) := by decide +kernel
theorem d_Screen_colourAt_33 : decode b_Screen_colourAt 33 = .ok (.istore_n 3, 1) := by decide +kernel
theorem d_Screen_colourAt_34 : decode b_Screen_colourAt 34 = .ok (.aload_n 0, 1) := by decide +kernel
theorem d_Screen_colourAt_35 : decode b_Screen_colourAt 35 = .ok (.getfield 129, 3) := by decide +kernel
theorem d_Screen_colourAt_38 : decode b_Screen_colourAt 38 = .ok (.iconst 1, 1) := by decide +kernel
theorem d_Screen_colourAt_39 : decode b_Screen_colourAt 39 = .ok (.iand, 1) := by decide +kernel
theorem d_Screen_colourAt_40 : decode b_Screen_colourAt 40 = .ok (.ifCond .eq 12, 3) := by decide +kernel
theorem d_Screen_colourAt_43 : decode b_Screen_colourAt 43 = .ok (.aload_n 0, 1) := by decide +kernel
theorem d_Screen_colourAt_44 : decode b_Screen_colourAt 44 = .ok (.iload_n 1, 1) := by decide +kernel
theorem d_Screen_colourAt_45 : decode b_Screen_colourAt 45 = .ok (.iload_n 3, 1) := by decide +kernel
theorem d_Screen_colourAt_46 : decode b_Screen_colourAt 46 = .ok (.invokevirtual 158, 3) := by decide +kernel
theorem d_Screen_colourAt_49 : decode b_Screen_colourAt 49 = .ok (.goto 9, 3) := by decide +kernel
theorem d_Screen_colourAt_52 : decode b_Screen_colourAt 52 = .ok (.aload_n 0, 1) := by decide +kernel
theorem d_Screen_colourAt_53 : decode b_Screen_colourAt 53 = .ok (.iload_n 1, 1) := by decide +kernel
theorem d_Screen_colourAt_54 : decode b_Screen_colourAt 54 = .ok (.iload_n 3, 1) := by decide +kernel
theorem d_Screen_colourAt_55 : decode b_Screen_colourAt 55 = .ok (.invokevirtual 162, 3) := by decide +kernel
theorem d_Screen_colourAt_58 : decode b_Screen_colourAt 58 = .ok (.istore 4, 2) := by decide +kernel
theorem d_Screen_colourAt_60 : decode b_Screen_colourAt 60 = .ok (.iload 4, 2) := by decide +kernel
theorem d_Screen_colourAt_62 : decode b_Screen_colourAt 62 = .ok (.ifCond .eq 10, 3) := by decide +kernel
theorem d_Screen_colourAt_65 : decode b_Screen_colourAt 65 = .ok (.aload_n 0, 1) := by decide +kernel
theorem d_Screen_colourAt_66 : decode b_Screen_colourAt 66 = .ok (.getfield 144, 3) := by decide +kernel
theorem d_Screen_colourAt_69 : decode b_Screen_colourAt 69 = .ok (.goto 7, 3) := by decide +kernel
theorem d_Screen_colourAt_72 : decode b_Screen_colourAt 72 = .ok (.aload_n 0, 1) := by decide +kernel
theorem d_Screen_colourAt_73 : decode b_Screen_colourAt 73 = .ok (.getfield 148, 3) := by decide +kernel
theorem d_Screen_colourAt_76 : decode b_Screen_colourAt 76 = .ok (.ireturn, 1) := by decide +kernel
theorem d_Screen_blockFills_0 : decode b_Screen_blockFills 0 = .ok (.aload_n 0, 1) := by decide +kernel
theorem d_Screen_blockFills_1 : decode b_Screen_blockFills 1 = .ok (.getfield 129, 3) := by decide +kernel
theorem d_Screen_blockFills_4 : decode b_Screen_blockFills 4 = .ok (.iconst 2, 1) := by decide +kernel
theorem d_Screen_blockFills_5 : decode b_Screen_blockFills 5 = .ok (.iand, 1) := by decide +kernel
theorem d_Screen_blockFills_6 : decode b_Screen_blockFills 6 = .ok (.ifCond .eq 19, 3) := by decide +kernel
theorem d_Screen_blockFills_9 : decode b_Screen_blockFills 9 = .ok (.iload_n 1, 1) := by decide +kernel
theorem d_Screen_blockFills_10 : decode b_Screen_blockFills 10 = .ok (.iconst 2, 1) := by decide +kernel
theorem d_Screen_blockFills_11 : decode b_Screen_blockFills 11 = .ok (.irem, 1) := by decide +kernel
theorem d_Screen_blockFills_12 : decode b_Screen_blockFills 12 = .ok (.iconst 1, 1) := by decide +kernel
theorem d_Screen_blockFills_13 : decode b_Screen_blockFills 13 = .ok (.if_icmp .eq 10, 3) := by decide +kernel
theorem d_Screen_blockFills_16 : decode b_Screen_blockFills 16 = .ok (.iload_n 2, 1) := by decide +kernel
theorem d_Screen_blockFills_17 : decode b_Screen_blockFills 17 = .ok (.iconst 2, 1) := by decide +kernel
theorem d_Screen_blockFills_18 : decode b_Screen_blockFills 18 = .ok (.irem, 1) := by decide +kernel
theorem d_Screen_blockFills_19 : decode b_Screen_blockFills 19 = .ok (.iconst 1, 1) := by decide +kernel
theorem d_Screen_blockFills_20 : decode b_Screen_blockFills 20 = .ok (.if_icmp .ne 5, 3) := by decide +kernel
theorem d_Screen_blockFills_23 : decode b_Screen_blockFills 23 = .ok (.iconst 0, 1) := by decide +kernel
theorem d_Screen_blockFills_24 : decode b_Screen_blockFills 24 = .ok (.ireturn, 1) := by decide +kernel
theorem d_Screen_blockFills_25 : decode b_Screen_blockFills 25 = .ok (.iconst 2, 1) := by decide +kernel
theorem d_Screen_blockFills_26 : decode b_Screen_blockFills 26 = .ok (.iload_n 2, 1) := by decide +kernel
theorem d_Screen_blockFills_27 : decode b_Screen_blockFills 27 = .ok (.iconst 2, 1) := by decide +kernel
theorem d_Screen_blockFills_28 : decode b_Screen_blockFills 28 = .ok (.idiv, 1) := by decide +kernel
theorem d_Screen_blockFills_29 : decode b_Screen_blockFills 29 = .ok (.imul, 1) := by decide +kernel
theorem d_Screen_blockFills_30 : decode b_Screen_blockFills 30 = .ok (.iload_n 1, 1) := by decide +kernel
theorem d_Screen_blockFills_31 : decode b_Screen_blockFills 31 = .ok (.iconst 2, 1) := by decide +kernel
theorem d_Screen_blockFills_32 : decode b_Screen_blockFills 32 = .ok (.idiv, 1) := by decide +kernel
theorem d_Screen_blockFills_33 : decode b_Screen_blockFills 33 = .ok (.iadd, 1) := by decide +kernel
theorem d_Screen_blockFills_34 : decode b_Screen_blockFills 34 = .ok (.istore_n 3, 1) := by decide +kernel
theorem d_Screen_blockFills_35 : decode b_Screen_blockFills 35 = .ok (.aload_n 0, 1) := by decide +kernel
theorem d_Screen_blockFills_36 : decode b_Screen_blockFills 36 = .ok (.getfield 126, 3) := by decide +kernel
theorem d_Screen_blockFills_39 : decode b_Screen_blockFills 39 = .ok (.iload_n 3, 1) := by decide +kernel
theorem d_Screen_blockFills_40 : decode b_Screen_blockFills 40 = .ok (.iconst 5, 1) := by decide +kernel
theorem d_Screen_blockFills_41 : decode b_Screen_blockFills 41 = .ok (.if_icmp .ne 8, 3) := by decide +kernel
theorem d_Screen_blockFills_44 : decode b_Screen_blockFills 44 = .ok (.bipush 6, 2) := by decide +kernel
theorem d_Screen_blockFills_46 : decode b_Screen_blockFills 46 = .ok (.goto 4, 3) := by decide +kernel
theorem d_Screen_blockFills_49 : decode b_Screen_blockFills 49 = .ok (.iload_n 3, 1) := by decide +kernel
theorem d_Screen_blockFills_50 : decode b_Screen_blockFills 50 = .ok (.ishr, 1) := by decide +kernel
theorem d_Screen_blockFills_51 : decode b_Screen_blockFills 51 = .ok (.iconst 1, 1) := by decide +kernel
theorem d_Screen_blockFills_52 : decode b_Screen_blockFills 52 = .ok (.iand, 1) := by decide +kernel
theorem d_Screen_blockFills_53 : decode b_Screen_blockFills 53 = .ok (.iconst 1, 1) := by decide +kernel
theorem d_Screen_blockFills_54 : decode b_Screen_blockFills 54 = .ok (.if_icmp .ne 7, 3) := by decide +kernel
theorem d_Screen_blockFills_57 : decode b_Screen_blockFills 57 = .ok (.iconst 1, 1) := by decide +kernel
theorem d_Screen_blockFills_58 : decode b_Screen_blockFills 58 = .ok (.goto 4, 3) := by decide +kernel
theorem d_Screen_blockFills_61 : decode b_Screen_blockFills 61 = .ok (.iconst 0, 1) := by decide +kernel
theorem d_Screen_blockFills_62 : decode b_Screen_blockFills 62 = .ok (.ireturn, 1) := by decide +kernel
theorem d_Screen_letterFills_0 : decode b_Screen_letterFills 0 = .ok (.aload_n 0, 1) := by decide +kernel
theorem d_Screen_letterFills_1 : decode b_Screen_letterFills 1 = .ok (.getfield 126, 3) := by decide +kernel
theorem d_Screen_letterFills_4 : decode b_Screen_letterFills 4 = .ok (.ldc 165, 2) := by decide +kernel
theorem d_Screen_letterFills_6 : decode b_Screen_letterFills 6 = .ok (.imul, 1) := by decide +kernel
theorem d_Screen_letterFills_7 : decode b_Screen_letterFills 7 = .ok (.aload_n 0, 1) := by decide +kernel
theorem d_Screen_letterFills_8 : decode b_Screen_letterFills 8 = .ok (.getfield 126, 3) := by decide +kernel
theorem d_Screen_letterFills_11 : decode b_Screen_letterFills 11 = .ok (.bipush 7, 2) := by decide +kernel
theorem d_Screen_letterFills_13 : decode b_Screen_letterFills 13 = .ok (.ishl, 1) := by decide +kernel
theorem d_Screen_letterFills_14 : decode b_Screen_letterFills 14 = .ok (.ixor, 1) := by decide +kernel
theorem d_Screen_letterFills_15 : decode b_Screen_letterFills 15 = .ok (.istore_n 3, 1) := by decide +kernel
theorem d_Screen_letterFills_16 : decode b_Screen_letterFills 16 = .ok (.aload_n 0, 1) := by decide +kernel
theorem d_Screen_letterFills_17 : decode b_Screen_letterFills 17 = .ok (.getfield 126, 3) := by decide +kernel
theorem d_Screen_letterFills_20 : decode b_Screen_letterFills 20 = .ok (.bipush 32, 2) := by decide +kernel
theorem d_Screen_letterFills_22 : decode b_Screen_letterFills 22 = .ok (.if_icmp .eq 20, 3) := by decide +kernel
theorem d_Screen_letterFills_25 : decode b_Screen_letterFills 25 = .ok (.iload_n 3, 1) := by decide +kernel
theorem d_Screen_letterFills_26 : decode b_Screen_letterFills 26 = .ok (.iload_n 2, 1) := by decide +kernel
theorem d_Screen_letterFills_27 : decode b_Screen_letterFills 27 = .ok (.iconst 4, 1) := by decide +kernel
theorem d_Screen_letterFills_28 : decode b_Screen_letterFills 28 = .ok (.imul, 1) := by decide +kernel
theorem d_Screen_letterFills_29 : decode b_Screen_letterFills 29 = .ok (.iload_n 1, 1) := by decide +kernel
theorem d_Screen_letterFills_30 : decode b_Screen_letterFills 30 = .ok (.iadd, 1) := by decide +kernel
theorem d_Screen_letterFills_31 : decode b_Screen_letterFills 31 = .ok (.ishr, 1) := by decide +kernel
theorem d_Screen_letterFills_32 : decode b_Screen_letterFills 32 = .ok (.iconst 1, 1) := by decide +kernel
theorem d_Screen_letterFills_33 : decode b_Screen_letterFills 33 = .ok (.iand, 1) := by decide +kernel
theorem d_Screen_letterFills_34 : decode b_Screen_letterFills 34 = .ok (.iconst 1, 1) := by decide +kernel
theorem d_Screen_letterFills_35 : decode b_Screen_letterFills 35 = .ok (.if_icmp .ne 7, 3) := by decide +kernel
theorem d_Screen_letterFills_38 : decode b_Screen_letterFills 38 = .ok (.iconst 1, 1) := by decide +kernel
theorem d_Screen_letterFills_39 : decode b_Screen_letterFills 39 = .ok (.goto 4, 3) := by decide +kernel
theorem d_Screen_letterFills_42 : decode b_Screen_letterFills 42 = .ok (.iconst 0, 1) := by decide +kernel
theorem d_Screen_letterFills_43 : decode b_Screen_letterFills 43 = .ok (.ireturn, 1) := by decide +kernel
theorem d_Law_cell_0 : decode b_Law_cell 0 = .ok (.iload_n 1, 1) := by decide +kernel
theorem d_Law_cell_1 : decode b_Law_cell 1 = .ok (.aload_n 0, 1) := by decide +kernel
theorem d_Law_cell_2 : decode b_Law_cell 2 = .ok (.arraylength, 1) := by decide +kernel
theorem d_Law_cell_3 : decode b_Law_cell 3 = .ok (.if_icmp .ge 9, 3) := by decide +kernel
theorem d_Law_cell_6 : decode b_Law_cell 6 = .ok (.aload_n 0, 1) := by decide +kernel
theorem d_Law_cell_7 : decode b_Law_cell 7 = .ok (.iload_n 1, 1) := by decide +kernel
theorem d_Law_cell_8 : decode b_Law_cell 8 = .ok (.iaload, 1) := by decide +kernel
theorem d_Law_cell_9 : decode b_Law_cell 9 = .ok (.goto 4, 3) := by decide +kernel
theorem d_Law_cell_12 : decode b_Law_cell 12 = .ok (.iconst 0, 1) := by decide +kernel
theorem d_Law_cell_13 : decode b_Law_cell 13 = .ok (.ireturn, 1) := by decide +kernel
theorem d_Mod_init_0 : decode b_Mod_init 0 = .ok (.aload_n 0, 1) := by decide +kernel
theorem d_Mod_init_1 : decode b_Mod_init 1 = .ok (.invokespecial 1, 3) := by decide +kernel
theorem d_Mod_init_4 : decode b_Mod_init 4 = .ok (.aload_n 0, 1) := by decide +kernel
theorem d_Mod_init_5 : decode b_Mod_init 5 = .ok (.bipush 13, 2) := by decide +kernel
theorem d_Mod_init_7 : decode b_Mod_init 7 = .ok (.newarray .boolean, 2) := by decide +kernel
theorem d_Mod_init_9 : decode b_Mod_init 9 = .ok (.putfield 7, 3) := by decide +kernel
theorem d_Mod_init_12 : decode b_Mod_init 12 = .ok (.aload_n 0, 1) := by decide +kernel
theorem d_Mod_init_13 : decode b_Mod_init 13 = .ok (.bipush 13, 2) := by decide +kernel
theorem d_Mod_init_15 : decode b_Mod_init 15 = .ok (.newarray .int, 2) := by decide +kernel
theorem d_Mod_init_17 : decode b_Mod_init 17 = .ok (.putfield 13, 3) := by decide +kernel
theorem d_Mod_init_20 : decode b_Mod_init 20 = .ok (.aload_n 0, 1) := by decide +kernel
theorem d_Mod_init_21 : decode b_Mod_init 21 = .ok (.bipush 13, 2) := by decide +kernel
theorem d_Mod_init_23 : decode b_Mod_init 23 = .ok (.newarray .int, 2) := by decide +kernel
theorem d_Mod_init_25 : decode b_Mod_init 25 = .ok (.putfield 17, 3) := by decide +kernel
theorem d_Mod_init_28 : decode b_Mod_init 28 = .ok (.aload_n 0, 1) := by decide +kernel
theorem d_Mod_init_29 : decode b_Mod_init 29 = .ok (.bipush 13, 2) := by decide +kernel
theorem d_Mod_init_31 : decode b_Mod_init 31 = .ok (.newarray .int, 2) := by decide +kernel
theorem d_Mod_init_33 : decode b_Mod_init 33 = .ok (.putfield 20, 3) := by decide +kernel
theorem d_Mod_init_36 : decode b_Mod_init 36 = .ok (.aload_n 0, 1) := by decide +kernel
theorem d_Mod_init_37 : decode b_Mod_init 37 = .ok (.bipush 13, 2) := by decide +kernel
theorem d_Mod_init_39 : decode b_Mod_init 39 = .ok (.newarray .int, 2) := by decide +kernel
theorem d_Mod_init_41 : decode b_Mod_init 41 = .ok (.putfield 23, 3) := by decide +kernel
theorem d_Mod_init_44 : decode b_Mod_init 44 = .ok (.aload_n 0, 1) := by decide +kernel
theorem d_Mod_init_45 : decode b_Mod_init 45 = .ok (.bipush 52, 2) := by decide +kernel
theorem d_Mod_init_47 : decode b_Mod_init 47 = .ok (.newarray .int, 2) := by decide +kernel
theorem d_Mod_init_49 : decode b_Mod_init 49 = .ok (.putfield 26, 3) := by decide +kernel
theorem d_Mod_init_52 : decode b_Mod_init 52 = .ok (.aload_n 0, 1) := by decide +kernel
theorem d_Mod_init_53 : decode b_Mod_init 53 = .ok (.sipush 2080, 3) := by decide +kernel
theorem d_Mod_init_56 : decode b_Mod_init 56 = .ok (.newarray .int, 2) := by decide +kernel
theorem d_Mod_init_58 : decode b_Mod_init 58 = .ok (.putfield 29, 3) := by decide +kernel
theorem d_Mod_init_61 : decode b_Mod_init 61 = .ok (.aload_n 0, 1) := by decide +kernel
theorem d_Mod_init_62 : decode b_Mod_init 62 = .ok (.sipush 2080, 3) := by decide +kernel
theorem d_Mod_init_65 : decode b_Mod_init 65 = .ok (.newarray .int, 2) := by decide +kernel
theorem d_Mod_init_67 : decode b_Mod_init 67 = .ok (.putfield 32, 3) := by decide +kernel
theorem d_Mod_init_70 : decode b_Mod_init 70 = .ok (.aload_n 0, 1) := by decide +kernel
theorem d_Mod_init_71 : decode b_Mod_init 71 = .ok (.bipush 20, 2) := by decide +kernel
theorem d_Mod_init_73 : decode b_Mod_init 73 = .ok (.newarray .int, 2) := by decide +kernel
theorem d_Mod_init_75 : decode b_Mod_init 75 = .ok (.putfield 35, 3) := by decide +kernel
theorem d_Mod_init_78 : decode b_Mod_init 78 = .ok (.aload_n 0, 1) := by decide +kernel
theorem d_Mod_init_79 : decode b_Mod_init 79 = .ok (.bipush 22, 2) := by decide +kernel
theorem d_Mod_init_81 : decode b_Mod_init 81 = .ok (.newarray .int, 2) := by decide +kernel
theorem d_Mod_init_83 : decode b_Mod_init 83 = .ok (.putfield 38, 3) := by decide +kernel
theorem d_Mod_init_86 : decode b_Mod_init 86 = .ok (.aload_n 0, 1) := by decide +kernel
theorem d_Mod_init_87 : decode b_Mod_init 87 = .ok (.bipush 6, 2) := by decide +kernel
theorem d_Mod_init_89 : decode b_Mod_init 89 = .ok (.newarray .int, 2) := by decide +kernel
theorem d_Mod_init_91 : decode b_Mod_init 91 = .ok (.putfield 41, 3) := by decide +kernel
theorem d_Mod_init_94 : decode b_Mod_init 94 = .ok (.aload_n 0, 1) := by decide +kernel
theorem d_Mod_init_95 : decode b_Mod_init 95 = .ok (.sipush 256, 3) := by decide +kernel
theorem d_Mod_init_98 : decode b_Mod_init 98 = .ok (.putfield 44, 3) := by decide +kernel
theorem d_Mod_init_101 : decode b_Mod_init 101 = .ok (.aload_n 0, 1) := by decide +kernel
theorem d_Mod_init_102 : decode b_Mod_init 102 = .ok (.iconst 1, 1) := by decide +kernel
theorem d_Mod_init_103 : decode b_Mod_init 103 = .ok (.putfield 48, 3) := by decide +kernel
theorem d_Mod_init_106 : decode b_Mod_init 106 = .ok (.aload_n 0, 1) := by decide +kernel
theorem d_Mod_init_107 : decode b_Mod_init 107 = .ok (.bipush 20, 2) := by decide +kernel
theorem d_Mod_init_109 : decode b_Mod_init 109 = .ok (.newarray .int, 2) := by decide +kernel
theorem d_Mod_init_111 : decode b_Mod_init 111 = .ok (.putfield 52, 3) := by decide +kernel
theorem d_Mod_init_114 : decode b_Mod_init 114 = .ok (.aload_n 0, 1) := by decide +kernel
theorem d_Mod_init_115 : decode b_Mod_init 115 = .ok (.bipush 20, 2) := by decide +kernel
theorem d_Mod_init_117 : decode b_Mod_init 117 = .ok (.newarray .int, 2) := by decide +kernel
theorem d_Mod_init_119 : decode b_Mod_init 119 = .ok (.putfield 55, 3) := by decide +kernel
theorem d_Mod_init_122 : decode b_Mod_init 122 = .ok (.aload_n 0, 1) := by decide +kernel
theorem d_Mod_init_123 : decode b_Mod_init 123 = .ok (.bipush 20, 2) := by decide +kernel
theorem d_Mod_init_125 : decode b_Mod_init 125 = .ok (.newarray .int, 2) := by decide +kernel
theorem d_Mod_init_127 : decode b_Mod_init 127 = .ok (.putfield 58, 3) := by decide +kernel
theorem d_Mod_init_130 : decode b_Mod_init 130 = .ok (.aload_n 0, 1) := by decide +kernel
theorem d_Mod_init_131 : decode b_Mod_init 131 = .ok (.bipush 20, 2) := by decide +kernel
theorem d_Mod_init_133 : decode b_Mod_init 133 = .ok (.newarray .int, 2) := by decide +kernel
theorem d_Mod_init_135 : decode b_Mod_init 135 = .ok (.putfield 61, 3) := by decide +kernel
theorem d_Mod_init_138 : decode b_Mod_init 138 = .ok (.aload_n 0, 1) := by decide +kernel
theorem d_Mod_init_139 : decode b_Mod_init 139 = .ok (.bipush 20, 2) := by decide +kernel
theorem d_Mod_init_141 : decode b_Mod_init 141 = .ok (.newarray .int, 2) := by decide +kernel
theorem d_Mod_init_143 : decode b_Mod_init 143 = .ok (.putfield 64, 3) := by decide +kernel
theorem d_Mod_init_146 : decode b_Mod_init 146 = .ok (.aload_n 0, 1) := by decide +kernel
theorem d_Mod_init_147 : decode b_Mod_init 147 = .ok (.bipush 20, 2) := by decide +kernel
theorem d_Mod_init_149 : decode b_Mod_init 149 = .ok (.newarray .int, 2) := by decide +kernel
theorem d_Mod_init_151 : decode b_Mod_init 151 = .ok (.putfield 67, 3) := by decide +kernel
theorem d_Mod_init_154 : decode b_Mod_init 154 = .ok (.aload_n 0, 1) := by decide +kernel
theorem d_Mod_init_155 : decode b_Mod_init 155 = .ok (.iload_n 1, 1) := by decide +kernel
theorem d_Mod_init_156 : decode b_Mod_init 156 = .ok (.iconst 1, 1) := by decide +kernel
theorem d_Mod_init_157 : decode b_Mod_init 157 = .ok (.if_icmp .ge 7, 3) := by decide +kernel
theorem d_Mod_init_160 : decode b_Mod_init 160 = .ok (.iconst 1, 1) := by decide +kernel
theorem d_Mod_init_161 : decode b_Mod_init 161 = .ok (.goto 13, 3) := by decide +kernel
theorem d_Mod_init_164 : decode b_Mod_init 164 = .ok (.iload_n 1, 1) := by decide +kernel
theorem d_Mod_init_165 : decode b_Mod_init 165 = .ok (.iconst 4, 1) := by decide +kernel
theorem d_Mod_init_166 : decode b_Mod_init 166 = .ok (.if_icmp .le 7, 3) := by decide +kernel
theorem d_Mod_init_169 : decode b_Mod_init 169 = .ok (.iconst 4, 1) := by decide +kernel
theorem d_Mod_init_170 : decode b_Mod_init 170 = .ok (.goto 4, 3) := by decide +kernel
theorem d_Mod_init_173 : decode b_Mod_init 173 = .ok (.iload_n 1, 1) := by decide +kernel
theorem d_Mod_init_174 : decode b_Mod_init 174 = .ok (.putfield 70, 3) := by decide +kernel
theorem d_Mod_init_177 : decode b_Mod_init 177 = .ok (.iconst 0, 1) := by decide +kernel
theorem d_Mod_init_178 : decode b_Mod_init 178 = .ok (.istore_n 2, 1) := by decide +kernel
theorem d_Mod_init_179 : decode b_Mod_init 179 = .ok (.iload_n 2, 1) := by decide +kernel
theorem d_Mod_init_180 : decode b_Mod_init 180 = .ok (.bipush 20, 2) := by decide +kernel
theorem d_Mod_init_182 : decode b_Mod_init 182 = .ok (.if_icmp .ge 17, 3) := by decide +kernel
theorem d_Mod_init_185 : decode b_Mod_init 185 = .ok (.aload_n 0, 1) := by decide +kernel
theorem d_Mod_init_186 : decode b_Mod_init 186 = .ok (.getfield 35, 3) := by decide +kernel
theorem d_Mod_init_189 : decode b_Mod_init 189 = .ok (.iload_n 2, 1) := by decide +kernel
theorem d_Mod_init_190 : decode b_Mod_init 190 = .ok (.bipush 32, 2) := by decide +kernel
theorem d_Mod_init_192 : decode b_Mod_init 192 = .ok (.iastore, 1) := by decide +kernel
theorem d_Mod_init_193 : decode b_Mod_init 193 = .ok (.iinc 2 1, 3) := by decide +kernel
theorem d_Mod_init_196 : decode b_Mod_init 196 = .ok (.goto (-17), 3) := by decide +kernel
theorem d_Mod_init_199 : decode b_Mod_init 199 = .ok (.return_, 1) := by decide +kernel
end
section
theorem d_Mod_feed_0 : decode b_Mod_feed 0 = .ok (.iload_n 3, 1) := by decide +kernel
theorem d_Mod_feed_1 : decode b_Mod_feed 1 = .ok (.iconst 1, 1) := by decide +kernel
theorem d_Mod_feed_2 : decode b_Mod_feed 2 = .ok (.if_icmp .lt 9, 3) := by decide +kernel
theorem d_Mod_feed_5 : decode b_Mod_feed 5 = .ok (.iload_n 3, 1) := by decide +kernel
theorem d_Mod_feed_6 : decode b_Mod_feed 6 = .ok (.bipush 8, 2) := by decide +kernel
theorem d_Mod_feed_8 : decode b_Mod_feed 8 = .ok (.if_icmp .le 5, 3) := by decide +kernel
theorem d_Mod_feed_11 : decode b_Mod_feed 11 = .ok (.iconst (-1), 1) := by decide +kernel
theorem d_Mod_feed_12 : decode b_Mod_feed 12 = .ok (.ireturn, 1) := by decide +kernel
theorem d_Mod_feed_13 : decode b_Mod_feed 13 = .ok (.iload_n 3, 1) := by decide +kernel
theorem d_Mod_feed_14 : decode b_Mod_feed 14 = .ok (.iconst 1, 1) := by decide +kernel
theorem d_Mod_feed_15 : decode b_Mod_feed 15 = .ok (.isub, 1) := by decide +kernel
theorem d_Mod_feed_16 : decode b_Mod_feed 16 = .ok (.istore 4, 2) := by decide +kernel
theorem d_Mod_feed_18 : decode b_Mod_feed 18 = .ok (.iload 4, 2) := by decide +kernel
theorem d_Mod_feed_20 : decode b_Mod_feed 20 = .ok (.ifCond .lt 58, 3) := by decide +kernel
theorem d_Mod_feed_23 : decode b_Mod_feed 23 = .ok (.aload_n 0, 1) := by decide +kernel
theorem d_Mod_feed_24 : decode b_Mod_feed 24 = .ok (.getfield 38, 3) := by decide +kernel
theorem d_Mod_feed_27 : decode b_Mod_feed 27 = .ok (.aload_n 0, 1) := by decide +kernel
theorem d_Mod_feed_28 : decode b_Mod_feed 28 = .ok (.getfield 127, 3) := by decide +kernel
theorem d_Mod_feed_31 : decode b_Mod_feed 31 = .ok (.lload_n 1, 1) := by decide +kernel
theorem d_Mod_feed_32 : decode b_Mod_feed 32 = .ok (.bipush 8, 2) := by decide +kernel
theorem d_Mod_feed_34 : decode b_Mod_feed 34 = .ok (.iload 4, 2) := by decide +kernel
theorem d_Mod_feed_36 : decode b_Mod_feed 36 = .ok (.imul, 1) := by decide +kernel
theorem d_Mod_feed_37 : decode b_Mod_feed 37 = .ok (.lshr, 1) := by decide +kernel
theorem d_Mod_feed_38 : decode b_Mod_feed 38 = .ok (.ldc2_w 130, 3) := by decide +kernel
theorem d_Mod_feed_41 : decode b_Mod_feed 41 = .ok (.land, 1) := by decide +kernel
theorem d_Mod_feed_42 : decode b_Mod_feed 42 = .ok (.l2i, 1) := by decide +kernel
theorem d_Mod_feed_43 : decode b_Mod_feed 43 = .ok (.iastore, 1) := by decide +kernel
theorem d_Mod_feed_44 : decode b_Mod_feed 44 = .ok (.aload_n 0, 1) := by decide +kernel
theorem d_Mod_feed_45 : decode b_Mod_feed 45 = .ok (.dup, 1) := by decide +kernel
theorem d_Mod_feed_46 : decode b_Mod_feed 46 = .ok (.getfield 127, 3) := by decide +kernel
theorem d_Mod_feed_49 : decode b_Mod_feed 49 = .ok (.iconst 1, 1) := by decide +kernel
theorem d_Mod_feed_50 : decode b_Mod_feed 50 = .ok (.iadd, 1) := by decide +kernel
theorem d_Mod_feed_51 : decode b_Mod_feed 51 = .ok (.putfield 127, 3) := by decide +kernel
theorem d_Mod_feed_54 : decode b_Mod_feed 54 = .ok (.aload_n 0, 1) := by decide +kernel
theorem d_Mod_feed_55 : decode b_Mod_feed 55 = .ok (.getfield 127, 3) := by decide +kernel
theorem d_Mod_feed_58 : decode b_Mod_feed 58 = .ok (.bipush 22, 2) := by decide +kernel
theorem d_Mod_feed_60 : decode b_Mod_feed 60 = .ok (.if_icmp .ne 12, 3) := by decide +kernel
theorem d_Mod_feed_63 : decode b_Mod_feed 63 = .ok (.aload_n 0, 1) := by decide +kernel
theorem d_Mod_feed_64 : decode b_Mod_feed 64 = .ok (.iconst 0, 1) := by decide +kernel
theorem d_Mod_feed_65 : decode b_Mod_feed 65 = .ok (.putfield 127, 3) := by decide +kernel
theorem d_Mod_feed_68 : decode b_Mod_feed 68 = .ok (.aload_n 0, 1) := by decide +kernel
theorem d_Mod_feed_69 : decode b_Mod_feed 69 = .ok (.invokevirtual 132, 3) := by decide +kernel
theorem d_Mod_feed_72 : decode b_Mod_feed 72 = .ok (.iinc 4 (-1), 3) := by decide +kernel
theorem d_Mod_feed_75 : decode b_Mod_feed 75 = .ok (.goto (-57), 3) := by decide +kernel
theorem d_Mod_feed_78 : decode b_Mod_feed 78 = .ok (.aload_n 0, 1) := by decide +kernel
theorem d_Mod_feed_79 : decode b_Mod_feed 79 = .ok (.getfield 127, 3) := by decide +kernel
theorem d_Mod_feed_82 : decode b_Mod_feed 82 = .ok (.ireturn, 1) := by decide +kernel
theorem d_Mod_takePacket_0 : decode b_Mod_takePacket 0 = .ok (.aload_n 0, 1) := by decide +kernel
theorem d_Mod_takePacket_1 : decode b_Mod_takePacket 1 = .ok (.getfield 41, 3) := by decide +kernel
theorem d_Mod_takePacket_4 : decode b_Mod_takePacket 4 = .ok (.iconst 0, 1) := by decide +kernel
theorem d_Mod_takePacket_5 : decode b_Mod_takePacket 5 = .ok (.dup2, 1) := by decide +kernel
theorem d_Mod_takePacket_6 : decode b_Mod_takePacket 6 = .ok (.iaload, 1) := by decide +kernel
theorem d_Mod_takePacket_7 : decode b_Mod_takePacket 7 = .ok (.iconst 1, 1) := by decide +kernel
theorem d_Mod_takePacket_8 : decode b_Mod_takePacket 8 = .ok (.iadd, 1) := by decide +kernel
theorem d_Mod_takePacket_9 : decode b_Mod_takePacket 9 = .ok (.iastore, 1) := by decide +kernel
theorem d_Mod_takePacket_10 : decode b_Mod_takePacket 10 = .ok (.aload_n 0, 1) := by decide +kernel
theorem d_Mod_takePacket_11 : decode b_Mod_takePacket 11 = .ok (.aload_n 0, 1) := by decide +kernel
theorem d_Mod_takePacket_12 : decode b_Mod_takePacket 12 = .ok (.getfield 38, 3) := by decide +kernel
theorem d_Mod_takePacket_15 : decode b_Mod_takePacket 15 = .ok (.iconst 0, 1) := by decide +kernel
theorem d_Mod_takePacket_16 : decode b_Mod_takePacket 16 = .ok (.iaload, 1) := by decide +kernel
theorem d_Mod_takePacket_17 : decode b_Mod_takePacket 17 = .ok (.invokevirtual 90, 3) := by decide +kernel
theorem d_Mod_takePacket_20 : decode b_Mod_takePacket 20 = .ok (.istore_n 1, 1) := by decide +kernel
theorem d_Mod_takePacket_21 : decode b_Mod_takePacket 21 = .ok (.iload_n 1, 1) := by decide +kernel
theorem d_Mod_takePacket_22 : decode b_Mod_takePacket 22 = .ok (.ifCond .ge 7, 3) := by decide +kernel
theorem d_Mod_takePacket_25 : decode b_Mod_takePacket 25 = .ok (.iconst (-1), 1) := by decide +kernel
theorem d_Mod_takePacket_26 : decode b_Mod_takePacket 26 = .ok (.goto 13, 3) := by decide +kernel
theorem d_Mod_takePacket_29 : decode b_Mod_takePacket 29 = .ok (.aload_n 0, 1) := by decide +kernel
theorem d_Mod_takePacket_30 : decode b_Mod_takePacket 30 = .ok (.aload_n 0, 1) := by decide +kernel
theorem d_Mod_takePacket_31 : decode b_Mod_takePacket 31 = .ok (.getfield 38, 3) := by decide +kernel
theorem d_Mod_takePacket_34 : decode b_Mod_takePacket 34 = .ok (.iconst 1, 1) := by decide +kernel
theorem d_Mod_takePacket_35 : decode b_Mod_takePacket 35 = .ok (.iaload, 1) := by decide +kernel
theorem d_Mod_takePacket_36 : decode b_Mod_takePacket 36 = .ok (.invokevirtual 90, 3) := by decide +kernel
theorem d_Mod_takePacket_39 : decode b_Mod_takePacket 39 = .ok (.istore_n 2, 1) := by decide +kernel
theorem d_Mod_takePacket_40 : decode b_Mod_takePacket 40 = .ok (.iload_n 2, 1) := by decide +kernel
theorem d_Mod_takePacket_41 : decode b_Mod_takePacket 41 = .ok (.ifCond .ge 8, 3) := by decide +kernel
theorem d_Mod_takePacket_44 : decode b_Mod_takePacket 44 = .ok (.aload_n 0, 1) := by decide +kernel
theorem d_Mod_takePacket_45 : decode b_Mod_takePacket 45 = .ok (.invokevirtual 93, 3) := by decide +kernel
theorem d_Mod_takePacket_48 : decode b_Mod_takePacket 48 = .ok (.return_, 1) := by decide +kernel
theorem d_Mod_takePacket_49 : decode b_Mod_takePacket 49 = .ok (.iload_n 1, 1) := by decide +kernel
theorem d_Mod_takePacket_50 : decode b_Mod_takePacket 50 = .ok (.bipush 8, 2) := by decide +kernel
theorem d_Mod_takePacket_52 : decode b_Mod_takePacket 52 = .ok (.irem, 1) := by decide +kernel
theorem d_Mod_takePacket_53 : decode b_Mod_takePacket 53 = .ok (.istore_n 3, 1) := by decide +kernel
theorem d_Mod_takePacket_54 : decode b_Mod_takePacket 54 = .ok (.iload_n 1, 1) := by decide +kernel
theorem d_Mod_takePacket_55 : decode b_Mod_takePacket 55 = .ok (.bipush 8, 2) := by decide +kernel
theorem d_Mod_takePacket_57 : decode b_Mod_takePacket 57 = .ok (.idiv, 1) := by decide +kernel
theorem d_Mod_takePacket_58 : decode b_Mod_takePacket 58 = .ok (.iconst 2, 1) := by decide +kernel
theorem d_Mod_takePacket_59 : decode b_Mod_takePacket 59 = .ok (.iload_n 2, 1) := by decide +kernel
theorem d_Mod_takePacket_60 : decode b_Mod_takePacket 60 = .ok (.imul, 1) := by decide +kernel
theorem d_Mod_takePacket_61 : decode b_Mod_takePacket 61 = .ok (.iadd, 1) := by decide +kernel
theorem d_Mod_takePacket_62 : decode b_Mod_takePacket 62 = .ok (.istore 4, 2) := by decide +kernel
theorem d_Mod_takePacket_64 : decode b_Mod_takePacket 64 = .ok (.iload 4, 2) := by decide +kernel
theorem d_Mod_takePacket_66 : decode b_Mod_takePacket 66 = .ok (.ifCond .ne 11, 3) := by decide +kernel
theorem d_Mod_takePacket_69 : decode b_Mod_takePacket 69 = .ok (.aload_n 0, 1) := by decide +kernel
theorem d_Mod_takePacket_70 : decode b_Mod_takePacket 70 = .ok (.iload_n 3, 1) := by decide +kernel
theorem d_Mod_takePacket_71 : decode b_Mod_takePacket 71 = .ok (.invokevirtual 96, 3) := by decide +kernel
theorem d_Mod_takePacket_74 : decode b_Mod_takePacket 74 = .ok (.goto 146, 3) := by decide +kernel
theorem d_Mod_takePacket_77 : decode b_Mod_takePacket 77 = .ok (.aload_n 0, 1) := by decide +kernel
theorem d_Mod_takePacket_78 : decode b_Mod_takePacket 78 = .ok (.getfield 7, 3) := by decide +kernel
theorem d_Mod_takePacket_81 : decode b_Mod_takePacket 81 = .ok (.iload_n 3, 1) := by decide +kernel
theorem d_Mod_takePacket_82 : decode b_Mod_takePacket 82 = .ok (.baload, 1) := by decide +kernel
theorem d_Mod_takePacket_83 : decode b_Mod_takePacket 83 = .ok (.ifCond .eq 92, 3) := by decide +kernel
theorem d_Mod_takePacket_86 : decode b_Mod_takePacket 86 = .ok (.iload 4, 2) := by decide +kernel
theorem d_Mod_takePacket_88 : decode b_Mod_takePacket 88 = .ok (.bipush 8, 2) := by decide +kernel
theorem d_Mod_takePacket_90 : decode b_Mod_takePacket 90 = .ok (.if_icmp .ge 85, 3) := by decide +kernel
theorem d_Mod_takePacket_93 : decode b_Mod_takePacket 93 = .ok (.iconst 0, 1) := by decide +kernel
theorem d_Mod_takePacket_94 : decode b_Mod_takePacket 94 = .ok (.istore 5, 2) := by decide +kernel
theorem d_Mod_takePacket_96 : decode b_Mod_takePacket 96 = .ok (.iload 5, 2) := by decide +kernel
theorem d_Mod_takePacket_98 : decode b_Mod_takePacket 98 = .ok (.bipush 20, 2) := by decide +kernel
theorem d_Mod_takePacket_100 : decode b_Mod_takePacket 100 = .ok (.if_icmp .ge 72, 3) := by decide +kernel
theorem d_Mod_takePacket_103 : decode b_Mod_takePacket 103 = .ok (.aload_n 0, 1) := by decide +kernel
theorem d_Mod_takePacket_104 : decode b_Mod_takePacket 104 = .ok (.aload_n 0, 1) := by decide +kernel
theorem d_Mod_takePacket_105 : decode b_Mod_takePacket 105 = .ok (.getfield 38, 3) := by decide +kernel
theorem d_Mod_takePacket_108 : decode b_Mod_takePacket 108 = .ok (.iconst 2, 1) := by decide +kernel
theorem d_Mod_takePacket_109 : decode b_Mod_takePacket 109 = .ok (.iload 5, 2) := by decide +kernel
theorem d_Mod_takePacket_111 : decode b_Mod_takePacket 111 = .ok (.iadd, 1) := by decide +kernel
theorem d_Mod_takePacket_112 : decode b_Mod_takePacket 112 = .ok (.iaload, 1) := by decide +kernel
theorem d_Mod_takePacket_113 : decode b_Mod_takePacket 113 = .ok (.invokevirtual 100, 3) := by decide +kernel
theorem d_Mod_takePacket_116 : decode b_Mod_takePacket 116 = .ok (.istore 6, 2) := by decide +kernel
theorem d_Mod_takePacket_118 : decode b_Mod_takePacket 118 = .ok (.aload_n 0, 1) := by decide +kernel
theorem d_Mod_takePacket_119 : decode b_Mod_takePacket 119 = .ok (.getfield 29, 3) := by decide +kernel
theorem d_Mod_takePacket_122 : decode b_Mod_takePacket 122 = .ok (.sipush 160, 3) := by decide +kernel
theorem d_Mod_takePacket_125 : decode b_Mod_takePacket 125 = .ok (.iload_n 3, 1) := by decide +kernel
theorem d_Mod_takePacket_126 : decode b_Mod_takePacket 126 = .ok (.imul, 1) := by decide +kernel
theorem d_Mod_takePacket_127 : decode b_Mod_takePacket 127 = .ok (.bipush 20, 2) := by decide +kernel
theorem d_Mod_takePacket_129 : decode b_Mod_takePacket 129 = .ok (.iload 4, 2) := by decide +kernel
theorem d_Mod_takePacket_131 : decode b_Mod_takePacket 131 = .ok (.imul, 1) := by decide +kernel
theorem d_Mod_takePacket_132 : decode b_Mod_takePacket 132 = .ok (.iadd, 1) := by decide +kernel
theorem d_Mod_takePacket_133 : decode b_Mod_takePacket 133 = .ok (.iload 5, 2) := by decide +kernel
theorem d_Mod_takePacket_135 : decode b_Mod_takePacket 135 = .ok (.iadd, 1) := by decide +kernel
theorem d_Mod_takePacket_136 : decode b_Mod_takePacket 136 = .ok (.iload 6, 2) := by decide +kernel
theorem d_Mod_takePacket_138 : decode b_Mod_takePacket 138 = .ok (.ifCond .ge 25, 3) := by decide +kernel
theorem d_Mod_takePacket_141 : decode b_Mod_takePacket 141 = .ok (.aload_n 0, 1) := by decide +kernel
theorem d_Mod_takePacket_142 : decode b_Mod_takePacket 142 = .ok (.getfield 29, 3) := by decide +kernel
theorem d_Mod_takePacket_145 : decode b_Mod_takePacket 145 = .ok (.sipush 160, 3) := by decide +kernel
theorem d_Mod_takePacket_148 : decode b_Mod_takePacket 148 = .ok (.iload_n 3, 1) := by decide +kernel
theorem d_Mod_takePacket_149 : decode b_Mod_takePacket 149 = .ok (.imul, 1) := by decide +kernel
theorem d_Mod_takePacket_150 : decode b_Mod_takePacket 150 = .ok (.bipush 20, 2) := by decide +kernel
theorem d_Mod_takePacket_152 : decode b_Mod_takePacket 152 = .ok (.iload 4, 2) := by decide +kernel
theorem d_Mod_takePacket_154 : decode b_Mod_takePacket 154 = .ok (.imul, 1) := by decide +kernel
theorem d_Mod_takePacket_155 : decode b_Mod_takePacket 155 = .ok (.iadd, 1) := by decide +kernel
theorem d_Mod_takePacket_156 : decode b_Mod_takePacket 156 = .ok (.iload 5, 2) := by decide +kernel
theorem d_Mod_takePacket_158 : decode b_Mod_takePacket 158 = .ok (.iadd, 1) := by decide +kernel
theorem d_Mod_takePacket_159 : decode b_Mod_takePacket 159 = .ok (.iaload, 1) := by decide +kernel
theorem d_Mod_takePacket_160 : decode b_Mod_takePacket 160 = .ok (.goto 5, 3) := by decide +kernel
theorem d_Mod_takePacket_163 : decode b_Mod_takePacket 163 = .ok (.iload 6, 2) := by decide +kernel
theorem d_Mod_takePacket_165 : decode b_Mod_takePacket 165 = .ok (.iastore, 1) := by decide +kernel
theorem d_Mod_takePacket_166 : decode b_Mod_takePacket 166 = .ok (.iinc 5 1, 3) := by decide +kernel
theorem d_Mod_takePacket_169 : decode b_Mod_takePacket 169 = .ok (.goto (-73), 3) := by decide +kernel
theorem d_Mod_takePacket_172 : decode b_Mod_takePacket 172 = .ok (.goto 48, 3) := by decide +kernel
theorem d_Mod_takePacket_175 : decode b_Mod_takePacket 175 = .ok (.aload_n 0, 1) := by decide +kernel
theorem d_Mod_takePacket_176 : decode b_Mod_takePacket 176 = .ok (.getfield 7, 3) := by decide +kernel
theorem d_Mod_takePacket_179 : decode b_Mod_takePacket 179 = .ok (.iload_n 3, 1) := by decide +kernel
theorem d_Mod_takePacket_180 : decode b_Mod_takePacket 180 = .ok (.baload, 1) := by decide +kernel
theorem d_Mod_takePacket_181 : decode b_Mod_takePacket 181 = .ok (.ifCond .eq 18, 3) := by decide +kernel
theorem d_Mod_takePacket_184 : decode b_Mod_takePacket 184 = .ok (.iload 4, 2) := by decide +kernel
theorem d_Mod_takePacket_186 : decode b_Mod_takePacket 186 = .ok (.bipush 26, 2) := by decide +kernel
theorem d_Mod_takePacket_188 : decode b_Mod_takePacket 188 = .ok (.if_icmp .ne 11, 3) := by decide +kernel
theorem d_Mod_takePacket_191 : decode b_Mod_takePacket 191 = .ok (.aload_n 0, 1) := by decide +kernel
theorem d_Mod_takePacket_192 : decode b_Mod_takePacket 192 = .ok (.iload_n 3, 1) := by decide +kernel
theorem d_Mod_takePacket_193 : decode b_Mod_takePacket 193 = .ok (.invokevirtual 103, 3) := by decide +kernel
theorem d_Mod_takePacket_196 : decode b_Mod_takePacket 196 = .ok (.goto 24, 3) := by decide +kernel
theorem d_Mod_takePacket_199 : decode b_Mod_takePacket 199 = .ok (.aload_n 0, 1) := by decide +kernel
theorem d_Mod_takePacket_200 : decode b_Mod_takePacket 200 = .ok (.getfield 7, 3) := by decide +kernel
theorem d_Mod_takePacket_203 : decode b_Mod_takePacket 203 = .ok (.iload_n 3, 1) := by decide +kernel
theorem d_Mod_takePacket_204 : decode b_Mod_takePacket 204 = .ok (.baload, 1) := by decide +kernel
theorem d_Mod_takePacket_205 : decode b_Mod_takePacket 205 = .ok (.ifCond .eq 15, 3) := by decide +kernel
theorem d_Mod_takePacket_208 : decode b_Mod_takePacket 208 = .ok (.iload 4, 2) := by decide +kernel
theorem d_Mod_takePacket_210 : decode b_Mod_takePacket 210 = .ok (.bipush 27, 2) := by decide +kernel
theorem d_Mod_takePacket_212 : decode b_Mod_takePacket 212 = .ok (.if_icmp .ne 8, 3) := by decide +kernel
theorem d_Mod_takePacket_215 : decode b_Mod_takePacket 215 = .ok (.aload_n 0, 1) := by decide +kernel
theorem d_Mod_takePacket_216 : decode b_Mod_takePacket 216 = .ok (.iload_n 3, 1) := by decide +kernel
theorem d_Mod_takePacket_217 : decode b_Mod_takePacket 217 = .ok (.invokevirtual 106, 3) := by decide +kernel
theorem d_Mod_takePacket_220 : decode b_Mod_takePacket 220 = .ok (.return_, 1) := by decide +kernel
theorem d_Mod_nibble_0 : decode b_Mod_nibble 0 = .ok (.iconst (-1), 1) := by decide +kernel
theorem d_Mod_nibble_1 : decode b_Mod_nibble 1 = .ok (.istore_n 2, 1) := by decide +kernel
theorem d_Mod_nibble_2 : decode b_Mod_nibble 2 = .ok (.iconst 0, 1) := by decide +kernel
theorem d_Mod_nibble_3 : decode b_Mod_nibble 3 = .ok (.istore_n 3, 1) := by decide +kernel
theorem d_Mod_nibble_4 : decode b_Mod_nibble 4 = .ok (.iconst 0, 1) := by decide +kernel
theorem d_Mod_nibble_5 : decode b_Mod_nibble 5 = .ok (.istore 4, 2) := by decide +kernel
theorem d_Mod_nibble_7 : decode b_Mod_nibble 7 = .ok (.iload 4, 2) := by decide +kernel
theorem d_Mod_nibble_9 : decode b_Mod_nibble 9 = .ok (.bipush 16, 2) := by decide +kernel
theorem d_Mod_nibble_11 : decode b_Mod_nibble 11 = .ok (.if_icmp .ge 70, 3) := by decide +kernel
theorem d_Mod_nibble_14 : decode b_Mod_nibble 14 = .ok (.iload 4, 2) := by decide +kernel
theorem d_Mod_nibble_16 : decode b_Mod_nibble 16 = .ok (.invokestatic 77, 3) := by decide +kernel
theorem d_Mod_nibble_19 : decode b_Mod_nibble 19 = .ok (.istore 5, 2) := by decide +kernel
theorem d_Mod_nibble_21 : decode b_Mod_nibble 21 = .ok (.iconst 0, 1) := by decide +kernel
theorem d_Mod_nibble_22 : decode b_Mod_nibble 22 = .ok (.istore 6, 2) := by decide +kernel
theorem d_Mod_nibble_24 : decode b_Mod_nibble 24 = .ok (.iconst 0, 1) := by decide +kernel
theorem d_Mod_nibble_25 : decode b_Mod_nibble 25 = .ok (.istore 7, 2) := by decide +kernel
theorem d_Mod_nibble_27 : decode b_Mod_nibble 27 = .ok (.iload 7, 2) := by decide +kernel
theorem d_Mod_nibble_29 : decode b_Mod_nibble 29 = .ok (.bipush 8, 2) := by decide +kernel
theorem d_Mod_nibble_31 : decode b_Mod_nibble 31 = .ok (.if_icmp .ge 23, 3) := by decide +kernel
theorem d_Mod_nibble_34 : decode b_Mod_nibble 34 = .ok (.iload 6, 2) := by decide +kernel
theorem d_Mod_nibble_36 : decode b_Mod_nibble 36 = .ok (.iload 5, 2) := by decide +kernel
theorem d_Mod_nibble_38 : decode b_Mod_nibble 38 = .ok (.iload_n 1, 1) := by decide +kernel
theorem d_Mod_nibble_39 : decode b_Mod_nibble 39 = .ok (.ixor, 1) := by decide +kernel
theorem d_Mod_nibble_40 : decode b_Mod_nibble 40 = .ok (.iload 7, 2) := by decide +kernel
theorem d_Mod_nibble_42 : decode b_Mod_nibble 42 = .ok (.ishr, 1) := by decide +kernel
theorem d_Mod_nibble_43 : decode b_Mod_nibble 43 = .ok (.iconst 1, 1) := by decide +kernel
theorem d_Mod_nibble_44 : decode b_Mod_nibble 44 = .ok (.iand, 1) := by decide +kernel
theorem d_Mod_nibble_45 : decode b_Mod_nibble 45 = .ok (.iadd, 1) := by decide +kernel
theorem d_Mod_nibble_46 : decode b_Mod_nibble 46 = .ok (.istore 6, 2) := by decide +kernel
theorem d_Mod_nibble_48 : decode b_Mod_nibble 48 = .ok (.iinc 7 1, 3) := by decide +kernel
theorem d_Mod_nibble_51 : decode b_Mod_nibble 51 = .ok (.goto (-24), 3) := by decide +kernel
theorem d_Mod_nibble_54 : decode b_Mod_nibble 54 = .ok (.iload 6, 2) := by decide +kernel
theorem d_Mod_nibble_56 : decode b_Mod_nibble 56 = .ok (.iconst 2, 1) := by decide +kernel
theorem d_Mod_nibble_57 : decode b_Mod_nibble 57 = .ok (.if_icmp .ge 18, 3) := by decide +kernel
theorem d_Mod_nibble_60 : decode b_Mod_nibble 60 = .ok (.iload 4, 2) := by decide +kernel
theorem d_Mod_nibble_62 : decode b_Mod_nibble 62 = .ok (.istore_n 2, 1) := by decide +kernel
theorem d_Mod_nibble_63 : decode b_Mod_nibble 63 = .ok (.iload 6, 2) := by decide +kernel
theorem d_Mod_nibble_65 : decode b_Mod_nibble 65 = .ok (.iconst 1, 1) := by decide +kernel
theorem d_Mod_nibble_66 : decode b_Mod_nibble 66 = .ok (.if_icmp .ne 7, 3) := by decide +kernel
theorem d_Mod_nibble_69 : decode b_Mod_nibble 69 = .ok (.iconst 1, 1) := by decide +kernel
theorem d_Mod_nibble_70 : decode b_Mod_nibble 70 = .ok (.goto 4, 3) := by decide +kernel
theorem d_Mod_nibble_73 : decode b_Mod_nibble 73 = .ok (.iconst 0, 1) := by decide +kernel
theorem d_Mod_nibble_74 : decode b_Mod_nibble 74 = .ok (.istore_n 3, 1) := by decide +kernel
theorem d_Mod_nibble_75 : decode b_Mod_nibble 75 = .ok (.iinc 4 1, 3) := by decide +kernel
theorem d_Mod_nibble_78 : decode b_Mod_nibble 78 = .ok (.goto (-71), 3) := by decide +kernel
theorem d_Mod_nibble_81 : decode b_Mod_nibble 81 = .ok (.aload_n 0, 1) := by decide +kernel
theorem d_Mod_nibble_82 : decode b_Mod_nibble 82 = .ok (.getfield 41, 3) := by decide +kernel
theorem d_Mod_nibble_85 : decode b_Mod_nibble 85 = .ok (.iconst 2, 1) := by decide +kernel
theorem d_Mod_nibble_86 : decode b_Mod_nibble 86 = .ok (.iload_n 3, 1) := by decide +kernel
theorem d_Mod_nibble_87 : decode b_Mod_nibble 87 = .ok (.ifCond .eq 14, 3) := by decide +kernel
theorem d_Mod_nibble_90 : decode b_Mod_nibble 90 = .ok (.aload_n 0, 1) := by decide +kernel
theorem d_Mod_nibble_91 : decode b_Mod_nibble 91 = .ok (.getfield 41, 3) := by decide +kernel
theorem d_Mod_nibble_94 : decode b_Mod_nibble 94 = .ok (.iconst 2, 1) := by decide +kernel
theorem d_Mod_nibble_95 : decode b_Mod_nibble 95 = .ok (.iaload, 1) := by decide +kernel
theorem d_Mod_nibble_96 : decode b_Mod_nibble 96 = .ok (.iconst 1, 1) := by decide +kernel
theorem d_Mod_nibble_97 : decode b_Mod_nibble 97 = .ok (.iadd, 1) := by decide +kernel
theorem d_Mod_nibble_98 : decode b_Mod_nibble 98 = .ok (.goto 9, 3) := by decide +kernel
theorem d_Mod_nibble_101 : decode b_Mod_nibble 101 = .ok (.aload_n 0, 1) := by decide +kernel
theorem d_Mod_nibble_102 : decode b_Mod_nibble 102 = .ok (.getfield 41, 3) := by decide +kernel
theorem d_Mod_nibble_105 : decode b_Mod_nibble 105 = .ok (.iconst 2, 1) := by decide +kernel
theorem d_Mod_nibble_106 : decode b_Mod_nibble 106 = .ok (.iaload, 1) := by decide +kernel
theorem d_Mod_nibble_107 : decode b_Mod_nibble 107 = .ok (.iastore, 1) := by decide +kernel
theorem d_Mod_nibble_108 : decode b_Mod_nibble 108 = .ok (.aload_n 0, 1) := by decide +kernel
theorem d_Mod_nibble_109 : decode b_Mod_nibble 109 = .ok (.getfield 41, 3) := by decide +kernel
theorem d_Mod_nibble_112 : decode b_Mod_nibble 112 = .ok (.iconst 3, 1) := by decide +kernel
theorem d_Mod_nibble_113 : decode b_Mod_nibble 113 = .ok (.iload_n 2, 1) := by decide +kernel
theorem d_Mod_nibble_114 : decode b_Mod_nibble 114 = .ok (.ifCond .ge 14, 3) := by decide +kernel
theorem d_Mod_nibble_117 : decode b_Mod_nibble 117 = .ok (.aload_n 0, 1) := by decide +kernel
theorem d_Mod_nibble_118 : decode b_Mod_nibble 118 = .ok (.getfield 41, 3) := by decide +kernel
theorem d_Mod_nibble_121 : decode b_Mod_nibble 121 = .ok (.iconst 3, 1) := by decide +kernel
theorem d_Mod_nibble_122 : decode b_Mod_nibble 122 = .ok (.iaload, 1) := by decide +kernel
theorem d_Mod_nibble_123 : decode b_Mod_nibble 123 = .ok (.iconst 1, 1) := by decide +kernel
theorem d_Mod_nibble_124 : decode b_Mod_nibble 124 = .ok (.iadd, 1) := by decide +kernel
theorem d_Mod_nibble_125 : decode b_Mod_nibble 125 = .ok (.goto 9, 3) := by decide +kernel
theorem d_Mod_nibble_128 : decode b_Mod_nibble 128 = .ok (.aload_n 0, 1) := by decide +kernel
theorem d_Mod_nibble_129 : decode b_Mod_nibble 129 = .ok (.getfield 41, 3) := by decide +kernel
theorem d_Mod_nibble_132 : decode b_Mod_nibble 132 = .ok (.iconst 3, 1) := by decide +kernel
theorem d_Mod_nibble_133 : decode b_Mod_nibble 133 = .ok (.iaload, 1) := by decide +kernel
theorem d_Mod_nibble_134 : decode b_Mod_nibble 134 = .ok (.iastore, 1) := by decide +kernel
theorem d_Mod_nibble_135 : decode b_Mod_nibble 135 = .ok (.iload_n 2, 1) := by decide +kernel
theorem d_Mod_nibble_136 : decode b_Mod_nibble 136 = .ok (.ireturn, 1) := by decide +kernel
theorem d_Mod_codeOf_0 : decode b_Mod_codeOf 0 = .ok (.iload_n 0, 1) := by decide +kernel
theorem d_Mod_codeOf_1 : decode b_Mod_codeOf 1 = .ok (.iconst 1, 1) := by decide +kernel
theorem d_Mod_codeOf_2 : decode b_Mod_codeOf 2 = .ok (.iand, 1) := by decide +kernel
theorem d_Mod_codeOf_3 : decode b_Mod_codeOf 3 = .ok (.istore_n 1, 1) := by decide +kernel
theorem d_Mod_codeOf_4 : decode b_Mod_codeOf 4 = .ok (.iload_n 0, 1) := by decide +kernel
theorem d_Mod_codeOf_5 : decode b_Mod_codeOf 5 = .ok (.iconst 1, 1) := by decide +kernel
theorem d_Mod_codeOf_6 : decode b_Mod_codeOf 6 = .ok (.ishr, 1) := by decide +kernel
theorem d_Mod_codeOf_7 : decode b_Mod_codeOf 7 = .ok (.iconst 1, 1) := by decide +kernel
theorem d_Mod_codeOf_8 : decode b_Mod_codeOf 8 = .ok (.iand, 1) := by decide +kernel
theorem d_Mod_codeOf_9 : decode b_Mod_codeOf 9 = .ok (.istore_n 2, 1) := by decide +kernel
theorem d_Mod_codeOf_10 : decode b_Mod_codeOf 10 = .ok (.iload_n 0, 1) := by decide +kernel
theorem d_Mod_codeOf_11 : decode b_Mod_codeOf 11 = .ok (.iconst 2, 1) := by decide +kernel
theorem d_Mod_codeOf_12 : decode b_Mod_codeOf 12 = .ok (.ishr, 1) := by decide +kernel
theorem d_Mod_codeOf_13 : decode b_Mod_codeOf 13 = .ok (.iconst 1, 1) := by decide +kernel
theorem d_Mod_codeOf_14 : decode b_Mod_codeOf 14 = .ok (.iand, 1) := by decide +kernel
theorem d_Mod_codeOf_15 : decode b_Mod_codeOf 15 = .ok (.istore_n 3, 1) := by decide +kernel
theorem d_Mod_codeOf_16 : decode b_Mod_codeOf 16 = .ok (.iload_n 0, 1) := by decide +kernel
theorem d_Mod_codeOf_17 : decode b_Mod_codeOf 17 = .ok (.iconst 3, 1) := by decide +kernel
theorem d_Mod_codeOf_18 : decode b_Mod_codeOf 18 = .ok (.ishr, 1) := by decide +kernel
theorem d_Mod_codeOf_19 : decode b_Mod_codeOf 19 = .ok (.istore 4, 2) := by decide +kernel
theorem d_Mod_codeOf_21 : decode b_Mod_codeOf 21 = .ok (.iconst 1, 1) := by decide +kernel
theorem d_Mod_codeOf_22 : decode b_Mod_codeOf 22 = .ok (.iload_n 1, 1) := by decide +kernel
theorem d_Mod_codeOf_23 : decode b_Mod_codeOf 23 = .ok (.iadd, 1) := by decide +kernel
theorem d_Mod_codeOf_24 : decode b_Mod_codeOf 24 = .ok (.iload_n 3, 1) := by decide +kernel
theorem d_Mod_codeOf_25 : decode b_Mod_codeOf 25 = .ok (.iadd, 1) := by decide +kernel
theorem d_Mod_codeOf_26 : decode b_Mod_codeOf 26 = .ok (.iload 4, 2) := by decide +kernel
theorem d_Mod_codeOf_28 : decode b_Mod_codeOf 28 = .ok (.iadd, 1) := by decide +kernel
theorem d_Mod_codeOf_29 : decode b_Mod_codeOf 29 = .ok (.iconst 2, 1) := by decide +kernel
theorem d_Mod_codeOf_30 : decode b_Mod_codeOf 30 = .ok (.irem, 1) := by decide +kernel
theorem d_Mod_codeOf_31 : decode b_Mod_codeOf 31 = .ok (.iconst 2, 1) := by decide +kernel
theorem d_Mod_codeOf_32 : decode b_Mod_codeOf 32 = .ok (.iload_n 1, 1) := by decide +kernel
theorem d_Mod_codeOf_33 : decode b_Mod_codeOf 33 = .ok (.imul, 1) := by decide +kernel
theorem d_Mod_codeOf_34 : decode b_Mod_codeOf 34 = .ok (.iadd, 1) := by decide +kernel
theorem d_Mod_codeOf_35 : decode b_Mod_codeOf 35 = .ok (.iconst 4, 1) := by decide +kernel
theorem d_Mod_codeOf_36 : decode b_Mod_codeOf 36 = .ok (.iconst 1, 1) := by decide +kernel
theorem d_Mod_codeOf_37 : decode b_Mod_codeOf 37 = .ok (.iload_n 1, 1) := by decide +kernel
theorem d_Mod_codeOf_38 : decode b_Mod_codeOf 38 = .ok (.iadd, 1) := by decide +kernel
theorem d_Mod_codeOf_39 : decode b_Mod_codeOf 39 = .ok (.iload_n 2, 1) := by decide +kernel
theorem d_Mod_codeOf_40 : decode b_Mod_codeOf 40 = .ok (.iadd, 1) := by decide +kernel
theorem d_Mod_codeOf_41 : decode b_Mod_codeOf 41 = .ok (.iload 4, 2) := by decide +kernel
theorem d_Mod_codeOf_43 : decode b_Mod_codeOf 43 = .ok (.iadd, 1) := by decide +kernel
theorem d_Mod_codeOf_44 : decode b_Mod_codeOf 44 = .ok (.iconst 2, 1) := by decide +kernel
theorem d_Mod_codeOf_45 : decode b_Mod_codeOf 45 = .ok (.irem, 1) := by decide +kernel
theorem d_Mod_codeOf_46 : decode b_Mod_codeOf 46 = .ok (.imul, 1) := by decide +kernel
theorem d_Mod_codeOf_47 : decode b_Mod_codeOf 47 = .ok (.iadd, 1) := by decide +kernel
theorem d_Mod_codeOf_48 : decode b_Mod_codeOf 48 = .ok (.bipush 8, 2) := by decide +kernel
theorem d_Mod_codeOf_50 : decode b_Mod_codeOf 50 = .ok (.iload_n 2, 1) := by decide +kernel
theorem d_Mod_codeOf_51 : decode b_Mod_codeOf 51 = .ok (.imul, 1) := by decide +kernel
theorem d_Mod_codeOf_52 : decode b_Mod_codeOf 52 = .ok (.iadd, 1) := by decide +kernel
theorem d_Mod_codeOf_53 : decode b_Mod_codeOf 53 = .ok (.bipush 16, 2) := by decide +kernel
theorem d_Mod_codeOf_55 : decode b_Mod_codeOf 55 = .ok (.iconst 1, 1) := by decide +kernel
theorem d_Mod_codeOf_56 : decode b_Mod_codeOf 56 = .ok (.iload_n 1, 1) := by decide +kernel
theorem d_Mod_codeOf_57 : decode b_Mod_codeOf 57 = .ok (.iadd, 1) := by decide +kernel
theorem d_Mod_codeOf_58 : decode b_Mod_codeOf 58 = .ok (.iload_n 2, 1) := by decide +kernel
theorem d_Mod_codeOf_59 : decode b_Mod_codeOf 59 = .ok (.iadd, 1) := by decide +kernel
theorem d_Mod_codeOf_60 : decode b_Mod_codeOf 60 = .ok (.iload_n 3, 1) := by decide +kernel
theorem d_Mod_codeOf_61 : decode b_Mod_codeOf 61 = .ok (.iadd, 1) := by decide +kernel
theorem d_Mod_codeOf_62 : decode b_Mod_codeOf 62 = .ok (.iconst 2, 1) := by decide +kernel
theorem d_Mod_codeOf_63 : decode b_Mod_codeOf 63 = .ok (.irem, 1) := by decide +kernel
theorem d_Mod_codeOf_64 : decode b_Mod_codeOf 64 = .ok (.imul, 1) := by decide +kernel
theorem d_Mod_codeOf_65 : decode b_Mod_codeOf 65 = .ok (.iadd, 1) := by decide +kernel
theorem d_Mod_codeOf_66 : decode b_Mod_codeOf 66 = .ok (.bipush 32, 2) := by decide +kernel
theorem d_Mod_codeOf_68 : decode b_Mod_codeOf 68 = .ok (.iload_n 3, 1) := by decide +kernel
theorem d_Mod_codeOf_69 : decode b_Mod_codeOf 69 = .ok (.imul, 1) := by decide +kernel
theorem d_Mod_codeOf_70 : decode b_Mod_codeOf 70 = .ok (.iadd, 1) := by decide +kernel
theorem d_Mod_codeOf_71 : decode b_Mod_codeOf 71 = .ok (.sipush 128, 3) := by decide +kernel
theorem d_Mod_codeOf_74 : decode b_Mod_codeOf 74 = .ok (.iload 4, 2) := by decide +kernel
theorem d_Mod_codeOf_76 : decode b_Mod_codeOf 76 = .ok (.imul, 1) := by decide +kernel
theorem d_Mod_codeOf_77 : decode b_Mod_codeOf 77 = .ok (.iadd, 1) := by decide +kernel
theorem d_Mod_codeOf_78 : decode b_Mod_codeOf 78 = .ok (.istore 5, 2) := by decide +kernel
theorem d_Mod_codeOf_80 : decode b_Mod_codeOf 80 = .ok (.iload 5, 2) := by decide +kernel
theorem d_Mod_codeOf_82 : decode b_Mod_codeOf 82 = .ok (.invokestatic 73, 3) := by decide +kernel
theorem d_Mod_codeOf_85 : decode b_Mod_codeOf 85 = .ok (.iconst 1, 1) := by decide +kernel
theorem d_Mod_codeOf_86 : decode b_Mod_codeOf 86 = .ok (.if_icmp .ne 8, 3) := by decide +kernel
theorem d_Mod_codeOf_89 : decode b_Mod_codeOf 89 = .ok (.iload 5, 2) := by decide +kernel
theorem d_Mod_codeOf_91 : decode b_Mod_codeOf 91 = .ok (.goto 8, 3) := by decide +kernel
theorem d_Mod_codeOf_94 : decode b_Mod_codeOf 94 = .ok (.iload 5, 2) := by decide +kernel
theorem d_Mod_codeOf_96 : decode b_Mod_codeOf 96 = .ok (.bipush 64, 2) := by decide +kernel
theorem d_Mod_codeOf_98 : decode b_Mod_codeOf 98 = .ok (.iadd, 1) := by decide +kernel
theorem d_Mod_codeOf_99 : decode b_Mod_codeOf 99 = .ok (.ireturn, 1) := by decide +kernel
theorem d_Mod_parity_0 : decode b_Mod_parity 0 = .ok (.iconst 0, 1) := by decide +kernel
theorem d_Mod_parity_1 : decode b_Mod_parity 1 = .ok (.istore_n 1, 1) := by decide +kernel
theorem d_Mod_parity_2 : decode b_Mod_parity 2 = .ok (.iconst 0, 1) := by decide +kernel
theorem d_Mod_parity_3 : decode b_Mod_parity 3 = .ok (.istore_n 2, 1) := by decide +kernel
theorem d_Mod_parity_4 : decode b_Mod_parity 4 = .ok (.iload_n 2, 1) := by decide +kernel
theorem d_Mod_parity_5 : decode b_Mod_parity 5 = .ok (.bipush 24, 2) := by decide +kernel
theorem d_Mod_parity_7 : decode b_Mod_parity 7 = .ok (.if_icmp .ge 17, 3) := by decide +kernel
theorem d_Mod_parity_10 : decode b_Mod_parity 10 = .ok (.iload_n 1, 1) := by decide +kernel
theorem d_Mod_parity_11 : decode b_Mod_parity 11 = .ok (.iload_n 0, 1) := by decide +kernel
theorem d_Mod_parity_12 : decode b_Mod_parity 12 = .ok (.iload_n 2, 1) := by decide +kernel
theorem d_Mod_parity_13 : decode b_Mod_parity 13 = .ok (.ishr, 1) := by decide +kernel
theorem d_Mod_parity_14 : decode b_Mod_parity 14 = .ok (.iconst 1, 1) := by decide +kernel
theorem d_Mod_parity_15 : decode b_Mod_parity 15 = .ok (.iand, 1) := by decide +kernel
theorem d_Mod_parity_16 : decode b_Mod_parity 16 = .ok (.iadd, 1) := by decide +kernel
theorem d_Mod_parity_17 : decode b_Mod_parity 17 = .ok (.istore_n 1, 1) := by decide +kernel
theorem d_Mod_parity_18 : decode b_Mod_parity 18 = .ok (.iinc 2 1, 3) := by decide +kernel
theorem d_Mod_parity_21 : decode b_Mod_parity 21 = .ok (.goto (-17), 3) := by decide +kernel
theorem d_Mod_parity_24 : decode b_Mod_parity 24 = .ok (.iload_n 1, 1) := by decide +kernel
theorem d_Mod_parity_25 : decode b_Mod_parity 25 = .ok (.iconst 2, 1) := by decide +kernel
theorem d_Mod_parity_26 : decode b_Mod_parity 26 = .ok (.irem, 1) := by decide +kernel
theorem d_Mod_parity_27 : decode b_Mod_parity 27 = .ok (.ireturn, 1) := by decide +kernel
theorem d_Mod_drop_0 : decode b_Mod_drop 0 = .ok (.aload_n 0, 1) := by decide +kernel
theorem d_Mod_drop_1 : decode b_Mod_drop 1 = .ok (.getfield 41, 3) := by decide +kernel
theorem d_Mod_drop_4 : decode b_Mod_drop 4 = .ok (.iconst 1, 1) := by decide +kernel
theorem d_Mod_drop_5 : decode b_Mod_drop 5 = .ok (.dup2, 1) := by decide +kernel
theorem d_Mod_drop_6 : decode b_Mod_drop 6 = .ok (.iaload, 1) := by decide +kernel
theorem d_Mod_drop_7 : decode b_Mod_drop 7 = .ok (.iconst 1, 1) := by decide +kernel
theorem d_Mod_drop_8 : decode b_Mod_drop 8 = .ok (.iadd, 1) := by decide +kernel
theorem d_Mod_drop_9 : decode b_Mod_drop 9 = .ok (.iastore, 1) := by decide +kernel
theorem d_Mod_drop_10 : decode b_Mod_drop 10 = .ok (.return_, 1) := by decide +kernel
theorem d_Mod_takeHeader_0 : decode b_Mod_takeHeader 0 = .ok (.aload_n 0, 1) := by decide +kernel
theorem d_Mod_takeHeader_1 : decode b_Mod_takeHeader 1 = .ok (.aload_n 0, 1) := by decide +kernel
theorem d_Mod_takeHeader_2 : decode b_Mod_takeHeader 2 = .ok (.getfield 38, 3) := by decide +kernel
theorem d_Mod_takeHeader_5 : decode b_Mod_takeHeader 5 = .ok (.iconst 2, 1) := by decide +kernel
theorem d_Mod_takeHeader_6 : decode b_Mod_takeHeader 6 = .ok (.iaload, 1) := by decide +kernel
theorem d_Mod_takeHeader_7 : decode b_Mod_takeHeader 7 = .ok (.invokevirtual 90, 3) := by decide +kernel
theorem d_Mod_takeHeader_10 : decode b_Mod_takeHeader 10 = .ok (.istore_n 2, 1) := by decide +kernel
theorem d_Mod_takeHeader_11 : decode b_Mod_takeHeader 11 = .ok (.iload_n 2, 1) := by decide +kernel
theorem d_Mod_takeHeader_12 : decode b_Mod_takeHeader 12 = .ok (.ifCond .ge 7, 3) := by decide +kernel
theorem d_Mod_takeHeader_15 : decode b_Mod_takeHeader 15 = .ok (.iconst (-1), 1) := by decide +kernel
theorem d_Mod_takeHeader_16 : decode b_Mod_takeHeader 16 = .ok (.goto 13, 3) := by decide +kernel
theorem d_Mod_takeHeader_19 : decode b_Mod_takeHeader 19 = .ok (.aload_n 0, 1) := by decide +kernel
theorem d_Mod_takeHeader_20 : decode b_Mod_takeHeader 20 = .ok (.aload_n 0, 1) := by decide +kernel
theorem d_Mod_takeHeader_21 : decode b_Mod_takeHeader 21 = .ok (.getfield 38, 3) := by decide +kernel
theorem d_Mod_takeHeader_24 : decode b_Mod_takeHeader 24 = .ok (.iconst 3, 1) := by decide +kernel
theorem d_Mod_takeHeader_25 : decode b_Mod_takeHeader 25 = .ok (.iaload, 1) := by decide +kernel
theorem d_Mod_takeHeader_26 : decode b_Mod_takeHeader 26 = .ok (.invokevirtual 90, 3) := by decide +kernel
theorem d_Mod_takeHeader_29 : decode b_Mod_takeHeader 29 = .ok (.istore_n 3, 1) := by decide +kernel
theorem d_Mod_takeHeader_30 : decode b_Mod_takeHeader 30 = .ok (.iload_n 3, 1) := by decide +kernel
theorem d_Mod_takeHeader_31 : decode b_Mod_takeHeader 31 = .ok (.ifCond .ge 7, 3) := by decide +kernel
theorem d_Mod_takeHeader_34 : decode b_Mod_takeHeader 34 = .ok (.iconst (-1), 1) := by decide +kernel
theorem d_Mod_takeHeader_35 : decode b_Mod_takeHeader 35 = .ok (.goto 13, 3) := by decide +kernel
theorem d_Mod_takeHeader_38 : decode b_Mod_takeHeader 38 = .ok (.aload_n 0, 1) := by decide +kernel
theorem d_Mod_takeHeader_39 : decode b_Mod_takeHeader 39 = .ok (.aload_n 0, 1) := by decide +kernel
theorem d_Mod_takeHeader_40 : decode b_Mod_takeHeader 40 = .ok (.getfield 38, 3) := by decide +kernel
theorem d_Mod_takeHeader_43 : decode b_Mod_takeHeader 43 = .ok (.iconst 4, 1) := by decide +kernel
theorem d_Mod_takeHeader_44 : decode b_Mod_takeHeader 44 = .ok (.iaload, 1) := by decide +kernel
theorem d_Mod_takeHeader_45 : decode b_Mod_takeHeader 45 = .ok (.invokevirtual 90, 3) := by decide +kernel
theorem d_Mod_takeHeader_48 : decode b_Mod_takeHeader 48 = .ok (.istore 4, 2) := by decide +kernel
theorem d_Mod_takeHeader_50 : decode b_Mod_takeHeader 50 = .ok (.iload 4, 2) := by decide +kernel
theorem d_Mod_takeHeader_52 : decode b_Mod_takeHeader 52 = .ok (.ifCond .ge 7, 3) := by decide +kernel
theorem d_Mod_takeHeader_55 : decode b_Mod_takeHeader 55 = .ok (.iconst (-1), 1) := by decide +kernel
theorem d_Mod_takeHeader_56 : decode b_Mod_takeHeader 56 = .ok (.goto 13, 3) := by decide +kernel
theorem d_Mod_takeHeader_59 : decode b_Mod_takeHeader 59 = .ok (.aload_n 0, 1) := by decide +kernel
theorem d_Mod_takeHeader_60 : decode b_Mod_takeHeader 60 = .ok (.aload_n 0, 1) := by decide +kernel
theorem d_Mod_takeHeader_61 : decode b_Mod_takeHeader 61 = .ok (.getfield 38, 3) := by decide +kernel
theorem d_Mod_takeHeader_64 : decode b_Mod_takeHeader 64 = .ok (.iconst 5, 1) := by decide +kernel
theorem d_Mod_takeHeader_65 : decode b_Mod_takeHeader 65 = .ok (.iaload, 1) := by decide +kernel
theorem d_Mod_takeHeader_66 : decode b_Mod_takeHeader 66 = .ok (.invokevirtual 90, 3) := by decide +kernel
theorem d_Mod_takeHeader_69 : decode b_Mod_takeHeader 69 = .ok (.istore 5, 2) := by decide +kernel
theorem d_Mod_takeHeader_71 : decode b_Mod_takeHeader 71 = .ok (.iload 5, 2) := by decide +kernel
theorem d_Mod_takeHeader_73 : decode b_Mod_takeHeader 73 = .ok (.ifCond .ge 7, 3) := by decide +kernel
theorem d_Mod_takeHeader_76 : decode b_Mod_takeHeader 76 = .ok (.iconst (-1), 1) := by decide +kernel
theorem d_Mod_takeHeader_77 : decode b_Mod_takeHeader 77 = .ok (.goto 14, 3) := by decide +kernel
theorem d_Mod_takeHeader_80 : decode b_Mod_takeHeader 80 = .ok (.aload_n 0, 1) := by decide +kernel
theorem d_Mod_takeHeader_81 : decode b_Mod_takeHeader 81 = .ok (.aload_n 0, 1) := by decide +kernel
theorem d_Mod_takeHeader_82 : decode b_Mod_takeHeader 82 = .ok (.getfield 38, 3) := by decide +kernel
theorem d_Mod_takeHeader_85 : decode b_Mod_takeHeader 85 = .ok (.bipush 6, 2) := by decide +kernel
theorem d_Mod_takeHeader_87 : decode b_Mod_takeHeader 87 = .ok (.iaload, 1) := by decide +kernel
theorem d_Mod_takeHeader_88 : decode b_Mod_takeHeader 88 = .ok (.invokevirtual 90, 3) := by decide +kernel
theorem d_Mod_takeHeader_91 : decode b_Mod_takeHeader 91 = .ok (.istore 6, 2) := by decide +kernel
theorem d_Mod_takeHeader_93 : decode b_Mod_takeHeader 93 = .ok (.iload 6, 2) := by decide +kernel
theorem d_Mod_takeHeader_95 : decode b_Mod_takeHeader 95 = .ok (.ifCond .ge 7, 3) := by decide +kernel
theorem d_Mod_takeHeader_98 : decode b_Mod_takeHeader 98 = .ok (.iconst (-1), 1) := by decide +kernel
theorem d_Mod_takeHeader_99 : decode b_Mod_takeHeader 99 = .ok (.goto 14, 3) := by decide +kernel
theorem d_Mod_takeHeader_102 : decode b_Mod_takeHeader 102 = .ok (.aload_n 0, 1) := by decide +kernel
theorem d_Mod_takeHeader_103 : decode b_Mod_takeHeader 103 = .ok (.aload_n 0, 1) := by decide +kernel
theorem d_Mod_takeHeader_104 : decode b_Mod_takeHeader 104 = .ok (.getfield 38, 3) := by decide +kernel
theorem d_Mod_takeHeader_107 : decode b_Mod_takeHeader 107 = .ok (.bipush 7, 2) := by decide +kernel
theorem d_Mod_takeHeader_109 : decode b_Mod_takeHeader 109 = .ok (.iaload, 1) := by decide +kernel
theorem d_Mod_takeHeader_110 : decode b_Mod_takeHeader 110 = .ok (.invokevirtual 90, 3) := by decide +kernel
theorem d_Mod_takeHeader_113 : decode b_Mod_takeHeader 113 = .ok (.istore 7, 2) := by decide +kernel
theorem d_Mod_takeHeader_115 : decode b_Mod_takeHeader 115 = .ok (.iload 7, 2) := by decide +kernel
theorem d_Mod_takeHeader_117 : decode b_Mod_takeHeader 117 = .ok (.ifCond .ge 8, 3) := by decide +kernel
theorem d_Mod_takeHeader_120 : decode b_Mod_takeHeader 120 = .ok (.aload_n 0, 1) := by decide +kernel
theorem d_Mod_takeHeader_121 : decode b_Mod_takeHeader 121 = .ok (.invokevirtual 93, 3) := by decide +kernel
theorem d_Mod_takeHeader_124 : decode b_Mod_takeHeader 124 = .ok (.return_, 1) := by decide +kernel
theorem d_Mod_takeHeader_125 : decode b_Mod_takeHeader 125 = .ok (.iconst 0, 1) := by decide +kernel
theorem d_Mod_takeHeader_126 : decode b_Mod_takeHeader 126 = .ok (.istore 8, 2) := by decide +kernel
theorem d_Mod_takeHeader_128 : decode b_Mod_takeHeader 128 = .ok (.iload 8, 2) := by decide +kernel
theorem d_Mod_takeHeader_130 : decode b_Mod_takeHeader 130 = .ok (.bipush 8, 2) := by decide +kernel
theorem d_Mod_takeHeader_132 : decode b_Mod_takeHeader 132 = .ok (.if_icmp .ge 29, 3) := by decide +kernel
theorem d_Mod_takeHeader_135 : decode b_Mod_takeHeader 135 = .ok (.iload 8, 2) := by decide +kernel
theorem d_Mod_takeHeader_137 : decode b_Mod_takeHeader 137 = .ok (.iload_n 1, 1) := by decide +kernel
theorem d_Mod_takeHeader_138 : decode b_Mod_takeHeader 138 = .ok (.if_icmp .eq 11, 3) := by decide +kernel
theorem d_Mod_takeHeader_141 : decode b_Mod_takeHeader 141 = .ok (.iload 6, 2) := by decide +kernel
theorem d_Mod_takeHeader_143 : decode b_Mod_takeHeader 143 = .ok (.iconst 2, 1) := by decide +kernel
theorem d_Mod_takeHeader_144 : decode b_Mod_takeHeader 144 = .ok (.irem, 1) := by decide +kernel
theorem d_Mod_takeHeader_145 : decode b_Mod_takeHeader 145 = .ok (.iconst 1, 1) := by decide +kernel
theorem d_Mod_takeHeader_146 : decode b_Mod_takeHeader 146 = .ok (.if_icmp .ne 9, 3) := by decide +kernel
theorem d_Mod_takeHeader_149 : decode b_Mod_takeHeader 149 = .ok (.aload_n 0, 1) := by decide +kernel
theorem d_Mod_takeHeader_150 : decode b_Mod_takeHeader 150 = .ok (.iload 8, 2) := by decide +kernel
theorem d_Mod_takeHeader_152 : decode b_Mod_takeHeader 152 = .ok (.invokevirtual 109, 3) := by decide +kernel
theorem d_Mod_takeHeader_155 : decode b_Mod_takeHeader 155 = .ok (.iinc 8 1, 3) := by decide +kernel
theorem d_Mod_takeHeader_158 : decode b_Mod_takeHeader 158 = .ok (.goto (-30), 3) := by decide +kernel
theorem d_Mod_takeHeader_161 : decode b_Mod_takeHeader 161 = .ok (.iload_n 3, 1) := by decide +kernel
theorem d_Mod_takeHeader_162 : decode b_Mod_takeHeader 162 = .ok (.bipush 15, 2) := by decide +kernel
theorem d_Mod_takeHeader_164 : decode b_Mod_takeHeader 164 = .ok (.if_icmp .ne 9, 3) := by decide +kernel
theorem d_Mod_takeHeader_167 : decode b_Mod_takeHeader 167 = .ok (.iload_n 2, 1) := by decide +kernel
theorem d_Mod_takeHeader_168 : decode b_Mod_takeHeader 168 = .ok (.bipush 15, 2) := by decide +kernel
theorem d_Mod_takeHeader_170 : decode b_Mod_takeHeader 170 = .ok (.if_icmp .eq 29, 3) := by decide +kernel
theorem d_Mod_takeHeader_173 : decode b_Mod_takeHeader 173 = .ok (.aload_n 0, 1) := by decide +kernel
theorem d_Mod_takeHeader_174 : decode b_Mod_takeHeader 174 = .ok (.iload_n 1, 1) := by decide +kernel
theorem d_Mod_takeHeader_175 : decode b_Mod_takeHeader 175 = .ok (.sipush 256, 3) := by decide +kernel
theorem d_Mod_takeHeader_178 : decode b_Mod_takeHeader 178 = .ok (.iload_n 1, 1) := by decide +kernel
theorem d_Mod_takeHeader_179 : decode b_Mod_takeHeader 179 = .ok (.imul, 1) := by decide +kernel
theorem d_Mod_takeHeader_180 : decode b_Mod_takeHeader 180 = .ok (.bipush 16, 2) := by decide +kernel
theorem d_Mod_takeHeader_182 : decode b_Mod_takeHeader 182 = .ok (.iload_n 3, 1) := by decide +kernel
theorem d_Mod_takeHeader_183 : decode b_Mod_takeHeader 183 = .ok (.imul, 1) := by decide +kernel
theorem d_Mod_takeHeader_184 : decode b_Mod_takeHeader 184 = .ok (.iadd, 1) := by decide +kernel
theorem d_Mod_takeHeader_185 : decode b_Mod_takeHeader 185 = .ok (.iload_n 2, 1) := by decide +kernel
theorem d_Mod_takeHeader_186 : decode b_Mod_takeHeader 186 = .ok (.iadd, 1) := by decide +kernel
theorem d_Mod_takeHeader_187 : decode b_Mod_takeHeader 187 = .ok (.iload 4, 2) := by decide +kernel
theorem d_Mod_takeHeader_189 : decode b_Mod_takeHeader 189 = .ok (.iload 5, 2) := by decide +kernel
theorem d_Mod_takeHeader_191 : decode b_Mod_takeHeader 191 = .ok (.iload 7, 2) := by decide +kernel
theorem d_Mod_takeHeader_193 : decode b_Mod_takeHeader 193 = .ok (.bipush 8, 2) := by decide +kernel
theorem d_Mod_takeHeader_195 : decode b_Mod_takeHeader 195 = .ok (.irem, 1) := by decide +kernel
theorem d_Mod_takeHeader_196 : decode b_Mod_takeHeader 196 = .ok (.invokevirtual 112, 3) := by decide +kernel
theorem d_Mod_takeHeader_199 : decode b_Mod_takeHeader 199 = .ok (.bipush 8, 2) := by decide +kernel
theorem d_Mod_takeHeader_201 : decode b_Mod_takeHeader 201 = .ok (.istore 8, 2) := by decide +kernel
theorem d_Mod_takeHeader_203 : decode b_Mod_takeHeader 203 = .ok (.iload 8, 2) := by decide +kernel
theorem d_Mod_takeHeader_205 : decode b_Mod_takeHeader 205 = .ok (.bipush 20, 2) := by decide +kernel
theorem d_Mod_takeHeader_207 : decode b_Mod_takeHeader 207 = .ok (.if_icmp .ge 76, 3) := by decide +kernel
theorem d_Mod_takeHeader_210 : decode b_Mod_takeHeader 210 = .ok (.aload_n 0, 1) := by decide +kernel
theorem d_Mod_takeHeader_211 : decode b_Mod_takeHeader 211 = .ok (.aload_n 0, 1) := by decide +kernel
theorem d_Mod_takeHeader_212 : decode b_Mod_takeHeader 212 = .ok (.getfield 38, 3) := by decide +kernel
theorem d_Mod_takeHeader_215 : decode b_Mod_takeHeader 215 = .ok (.iconst 2, 1) := by decide +kernel
theorem d_Mod_takeHeader_216 : decode b_Mod_takeHeader 216 = .ok (.iload 8, 2) := by decide +kernel
theorem d_Mod_takeHeader_218 : decode b_Mod_takeHeader 218 = .ok (.iadd, 1) := by decide +kernel
theorem d_Mod_takeHeader_219 : decode b_Mod_takeHeader 219 = .ok (.iaload, 1) := by decide +kernel
theorem d_Mod_takeHeader_220 : decode b_Mod_takeHeader 220 = .ok (.invokevirtual 100, 3) := by decide +kernel
theorem d_Mod_takeHeader_223 : decode b_Mod_takeHeader 223 = .ok (.istore 9, 2) := by decide +kernel
theorem d_Mod_takeHeader_225 : decode b_Mod_takeHeader 225 = .ok (.iload 9, 2) := by decide +kernel
theorem d_Mod_takeHeader_227 : decode b_Mod_takeHeader 227 = .ok (.ifCond .lt 27, 3) := by decide +kernel
theorem d_Mod_takeHeader_230 : decode b_Mod_takeHeader 230 = .ok (.aload_n 0, 1) := by decide +kernel
theorem d_Mod_takeHeader_231 : decode b_Mod_takeHeader 231 = .ok (.getfield 7, 3) := by decide +kernel
theorem d_Mod_takeHeader_234 : decode b_Mod_takeHeader 234 = .ok (.iload_n 1, 1) := by decide +kernel
theorem d_Mod_takeHeader_235 : decode b_Mod_takeHeader 235 = .ok (.baload, 1) := by decide +kernel
theorem d_Mod_takeHeader_236 : decode b_Mod_takeHeader 236 = .ok (.ifCond .eq 18, 3) := by decide +kernel
theorem d_Mod_takeHeader_239 : decode b_Mod_takeHeader 239 = .ok (.aload_n 0, 1) := by decide +kernel
theorem d_Mod_takeHeader_240 : decode b_Mod_takeHeader 240 = .ok (.getfield 29, 3) := by decide +kernel
theorem d_Mod_takeHeader_243 : decode b_Mod_takeHeader 243 = .ok (.sipush 160, 3) := by decide +kernel
theorem d_Mod_takeHeader_246 : decode b_Mod_takeHeader 246 = .ok (.iload_n 1, 1) := by decide +kernel
theorem d_Mod_takeHeader_247 : decode b_Mod_takeHeader 247 = .ok (.imul, 1) := by decide +kernel
theorem d_Mod_takeHeader_248 : decode b_Mod_takeHeader 248 = .ok (.iload 8, 2) := by decide +kernel
theorem d_Mod_takeHeader_250 : decode b_Mod_takeHeader 250 = .ok (.iadd, 1) := by decide +kernel
theorem d_Mod_takeHeader_251 : decode b_Mod_takeHeader 251 = .ok (.iload 9, 2) := by decide +kernel
theorem d_Mod_takeHeader_253 : decode b_Mod_takeHeader 253 = .ok (.iastore, 1) := by decide +kernel
theorem d_Mod_takeHeader_254 : decode b_Mod_takeHeader 254 = .ok (.iload 9, 2) := by decide +kernel
theorem d_Mod_takeHeader_256 : decode b_Mod_takeHeader 256 = .ok (.ifCond .lt 21, 3) := by decide +kernel
theorem d_Mod_takeHeader_259 : decode b_Mod_takeHeader 259 = .ok (.iload 6, 2) := by decide +kernel
theorem d_Mod_takeHeader_261 : decode b_Mod_takeHeader 261 = .ok (.iconst 2, 1) := by decide +kernel
theorem d_Mod_takeHeader_262 : decode b_Mod_takeHeader 262 = .ok (.idiv, 1) := by decide +kernel
theorem d_Mod_takeHeader_263 : decode b_Mod_takeHeader 263 = .ok (.iconst 2, 1) := by decide +kernel
theorem d_Mod_takeHeader_264 : decode b_Mod_takeHeader 264 = .ok (.irem, 1) := by decide +kernel
theorem d_Mod_takeHeader_265 : decode b_Mod_takeHeader 265 = .ok (.ifCond .ne 12, 3) := by decide +kernel
theorem d_Mod_takeHeader_268 : decode b_Mod_takeHeader 268 = .ok (.aload_n 0, 1) := by decide +kernel
theorem d_Mod_takeHeader_269 : decode b_Mod_takeHeader 269 = .ok (.getfield 35, 3) := by decide +kernel
theorem d_Mod_takeHeader_272 : decode b_Mod_takeHeader 272 = .ok (.iload 8, 2) := by decide +kernel
theorem d_Mod_takeHeader_274 : decode b_Mod_takeHeader 274 = .ok (.iload 9, 2) := by decide +kernel
theorem d_Mod_takeHeader_276 : decode b_Mod_takeHeader 276 = .ok (.iastore, 1) := by decide +kernel
theorem d_Mod_takeHeader_277 : decode b_Mod_takeHeader 277 = .ok (.iinc 8 1, 3) := by decide +kernel
theorem d_Mod_takeHeader_280 : decode b_Mod_takeHeader 280 = .ok (.goto (-77), 3) := by decide +kernel
theorem d_Mod_takeHeader_283 : decode b_Mod_takeHeader 283 = .ok (.return_, 1) := by decide +kernel
theorem d_Mod_complete_0 : decode b_Mod_complete 0 = .ok (.aload_n 0, 1) := by decide +kernel
theorem d_Mod_complete_1 : decode b_Mod_complete 1 = .ok (.getfield 7, 3) := by decide +kernel
theorem d_Mod_complete_4 : decode b_Mod_complete 4 = .ok (.iload_n 1, 1) := by decide +kernel
theorem d_Mod_complete_5 : decode b_Mod_complete 5 = .ok (.baload, 1) := by decide +kernel
theorem d_Mod_complete_6 : decode b_Mod_complete 6 = .ok (.ifCond .ne 4, 3) := by decide +kernel
theorem d_Mod_complete_9 : decode b_Mod_complete 9 = .ok (.return_, 1) := by decide +kernel
theorem d_Mod_complete_10 : decode b_Mod_complete 10 = .ok (.aload_n 0, 1) := by decide +kernel
theorem d_Mod_complete_11 : decode b_Mod_complete 11 = .ok (.getfield 7, 3) := by decide +kernel
theorem d_Mod_complete_14 : decode b_Mod_complete 14 = .ok (.iload_n 1, 1) := by decide +kernel
theorem d_Mod_complete_15 : decode b_Mod_complete 15 = .ok (.iconst 0, 1) := by decide +kernel
theorem d_Mod_complete_16 : decode b_Mod_complete 16 = .ok (.bastore, 1) := by decide +kernel
theorem d_Mod_complete_17 : decode b_Mod_complete 17 = .ok (.aload_n 0, 1) := by decide +kernel
theorem d_Mod_complete_18 : decode b_Mod_complete 18 = .ok (.aload_n 0, 1) := by decide +kernel
theorem d_Mod_complete_19 : decode b_Mod_complete 19 = .ok (.getfield 13, 3) := by decide +kernel
theorem d_Mod_complete_22 : decode b_Mod_complete 22 = .ok (.iload_n 1, 1) := by decide +kernel
theorem d_Mod_complete_23 : decode b_Mod_complete 23 = .ok (.iaload, 1) := by decide +kernel
theorem d_Mod_complete_24 : decode b_Mod_complete 24 = .ok (.invokevirtual 83, 3) := by decide +kernel
theorem d_Mod_complete_27 : decode b_Mod_complete 27 = .ok (.istore_n 2, 1) := by decide +kernel
theorem d_Mod_complete_28 : decode b_Mod_complete 28 = .ok (.aload_n 0, 1) := by decide +kernel
theorem d_Mod_complete_29 : decode b_Mod_complete 29 = .ok (.iload_n 1, 1) := by decide +kernel
theorem d_Mod_complete_30 : decode b_Mod_complete 30 = .ok (.iload_n 2, 1) := by decide +kernel
theorem d_Mod_complete_31 : decode b_Mod_complete 31 = .ok (.invokevirtual 86, 3) := by decide +kernel
theorem d_Mod_complete_34 : decode b_Mod_complete 34 = .ok (.aload_n 0, 1) := by decide +kernel
theorem d_Mod_complete_35 : decode b_Mod_complete 35 = .ok (.getfield 23, 3) := by decide +kernel
theorem d_Mod_complete_38 : decode b_Mod_complete 38 = .ok (.iload_n 2, 1) := by decide +kernel
theorem d_Mod_complete_39 : decode b_Mod_complete 39 = .ok (.aload_n 0, 1) := by decide +kernel
theorem d_Mod_complete_40 : decode b_Mod_complete 40 = .ok (.getfield 41, 3) := by decide +kernel
theorem d_Mod_complete_43 : decode b_Mod_complete 43 = .ok (.iconst 5, 1) := by decide +kernel
theorem d_Mod_complete_44 : decode b_Mod_complete 44 = .ok (.iaload, 1) := by decide +kernel
theorem d_Mod_complete_45 : decode b_Mod_complete 45 = .ok (.iastore, 1) := by decide +kernel
theorem d_Mod_complete_46 : decode b_Mod_complete 46 = .ok (.aload_n 0, 1) := by decide +kernel
theorem d_Mod_complete_47 : decode b_Mod_complete 47 = .ok (.getfield 41, 3) := by decide +kernel
theorem d_Mod_complete_50 : decode b_Mod_complete 50 = .ok (.iconst 5, 1) := by decide +kernel
theorem d_Mod_complete_51 : decode b_Mod_complete 51 = .ok (.dup2, 1) := by decide +kernel
theorem d_Mod_complete_52 : decode b_Mod_complete 52 = .ok (.iaload, 1) := by decide +kernel
theorem d_Mod_complete_53 : decode b_Mod_complete 53 = .ok (.iconst 1, 1) := by decide +kernel
theorem d_Mod_complete_54 : decode b_Mod_complete 54 = .ok (.iadd, 1) := by decide +kernel
theorem d_Mod_complete_55 : decode b_Mod_complete 55 = .ok (.iastore, 1) := by decide +kernel
theorem d_Mod_complete_56 : decode b_Mod_complete 56 = .ok (.return_, 1) := by decide +kernel
theorem d_Mod_placeFor_0 : decode b_Mod_placeFor 0 = .ok (.aload_n 0, 1) := by decide +kernel
theorem d_Mod_placeFor_1 : decode b_Mod_placeFor 1 = .ok (.iload_n 1, 1) := by decide +kernel
theorem d_Mod_placeFor_2 : decode b_Mod_placeFor 2 = .ok (.invokevirtual 80, 3) := by decide +kernel
theorem d_Mod_placeFor_5 : decode b_Mod_placeFor 5 = .ok (.istore_n 2, 1) := by decide +kernel
theorem d_Mod_placeFor_6 : decode b_Mod_placeFor 6 = .ok (.iload_n 2, 1) := by decide +kernel
theorem d_Mod_placeFor_7 : decode b_Mod_placeFor 7 = .ok (.ifCond .lt 5, 3) := by decide +kernel
theorem d_Mod_placeFor_10 : decode b_Mod_placeFor 10 = .ok (.iload_n 2, 1) := by decide +kernel
theorem d_Mod_placeFor_11 : decode b_Mod_placeFor 11 = .ok (.ireturn, 1) := by decide +kernel
theorem d_Mod_placeFor_12 : decode b_Mod_placeFor 12 = .ok (.iconst (-1), 1) := by decide +kernel
theorem d_Mod_placeFor_13 : decode b_Mod_placeFor 13 = .ok (.istore_n 3, 1) := by decide +kernel
theorem d_Mod_placeFor_14 : decode b_Mod_placeFor 14 = .ok (.bipush 8, 2) := by decide +kernel
theorem d_Mod_placeFor_16 : decode b_Mod_placeFor 16 = .ok (.istore 4, 2) := by decide +kernel
theorem d_Mod_placeFor_18 : decode b_Mod_placeFor 18 = .ok (.iload 4, 2) := by decide +kernel
theorem d_Mod_placeFor_20 : decode b_Mod_placeFor 20 = .ok (.bipush 8, 2) := by decide +kernel
theorem d_Mod_placeFor_22 : decode b_Mod_placeFor 22 = .ok (.aload_n 0, 1) := by decide +kernel
theorem d_Mod_placeFor_23 : decode b_Mod_placeFor 23 = .ok (.getfield 70, 3) := by decide +kernel
theorem d_Mod_placeFor_26 : decode b_Mod_placeFor 26 = .ok (.iadd, 1) := by decide +kernel
theorem d_Mod_placeFor_27 : decode b_Mod_placeFor 27 = .ok (.if_icmp .ge 79, 3) := by decide +kernel
theorem d_Mod_placeFor_30 : decode b_Mod_placeFor 30 = .ok (.aload_n 0, 1) := by decide +kernel
theorem d_Mod_placeFor_31 : decode b_Mod_placeFor 31 = .ok (.getfield 7, 3) := by decide +kernel
theorem d_Mod_placeFor_34 : decode b_Mod_placeFor 34 = .ok (.iload 4, 2) := by decide +kernel
theorem d_Mod_placeFor_36 : decode b_Mod_placeFor 36 = .ok (.baload, 1) := by decide +kernel
theorem d_Mod_placeFor_37 : decode b_Mod_placeFor 37 = .ok (.ifCond .ne 6, 3) := by decide +kernel
theorem d_Mod_placeFor_40 : decode b_Mod_placeFor 40 = .ok (.iload 4, 2) := by decide +kernel
theorem d_Mod_placeFor_42 : decode b_Mod_placeFor 42 = .ok (.ireturn, 1) := by decide +kernel
theorem d_Mod_placeFor_43 : decode b_Mod_placeFor 43 = .ok (.aload_n 0, 1) := by decide +kernel
theorem d_Mod_placeFor_44 : decode b_Mod_placeFor 44 = .ok (.getfield 70, 3) := by decide +kernel
theorem d_Mod_placeFor_47 : decode b_Mod_placeFor 47 = .ok (.iconst 1, 1) := by decide +kernel
theorem d_Mod_placeFor_48 : decode b_Mod_placeFor 48 = .ok (.if_icmp .eq 17, 3) := by decide +kernel
theorem d_Mod_placeFor_51 : decode b_Mod_placeFor 51 = .ok (.aload_n 0, 1) := by decide +kernel
theorem d_Mod_placeFor_52 : decode b_Mod_placeFor 52 = .ok (.getfield 13, 3) := by decide +kernel
theorem d_Mod_placeFor_55 : decode b_Mod_placeFor 55 = .ok (.iload 4, 2) := by decide +kernel
theorem d_Mod_placeFor_57 : decode b_Mod_placeFor 57 = .ok (.iaload, 1) := by decide +kernel
theorem d_Mod_placeFor_58 : decode b_Mod_placeFor 58 = .ok (.aload_n 0, 1) := by decide +kernel
theorem d_Mod_placeFor_59 : decode b_Mod_placeFor 59 = .ok (.getfield 44, 3) := by decide +kernel
theorem d_Mod_placeFor_62 : decode b_Mod_placeFor 62 = .ok (.if_icmp .eq 7, 3) := by decide +kernel
theorem d_Mod_placeFor_65 : decode b_Mod_placeFor 65 = .ok (.iconst 1, 1) := by decide +kernel
theorem d_Mod_placeFor_66 : decode b_Mod_placeFor 66 = .ok (.goto 4, 3) := by decide +kernel
theorem d_Mod_placeFor_69 : decode b_Mod_placeFor 69 = .ok (.iconst 0, 1) := by decide +kernel
theorem d_Mod_placeFor_70 : decode b_Mod_placeFor 70 = .ok (.istore 5, 2) := by decide +kernel
theorem d_Mod_placeFor_72 : decode b_Mod_placeFor 72 = .ok (.iload 5, 2) := by decide +kernel
theorem d_Mod_placeFor_74 : decode b_Mod_placeFor 74 = .ok (.ifCond .eq 26, 3) := by decide +kernel
theorem d_Mod_placeFor_77 : decode b_Mod_placeFor 77 = .ok (.iload_n 3, 1) := by decide +kernel
theorem d_Mod_placeFor_78 : decode b_Mod_placeFor 78 = .ok (.ifCond .lt 19, 3) := by decide +kernel
theorem d_Mod_placeFor_81 : decode b_Mod_placeFor 81 = .ok (.aload_n 0, 1) := by decide +kernel
theorem d_Mod_placeFor_82 : decode b_Mod_placeFor 82 = .ok (.getfield 23, 3) := by decide +kernel
theorem d_Mod_placeFor_85 : decode b_Mod_placeFor 85 = .ok (.iload 4, 2) := by decide +kernel
theorem d_Mod_placeFor_87 : decode b_Mod_placeFor 87 = .ok (.iaload, 1) := by decide +kernel
theorem d_Mod_placeFor_88 : decode b_Mod_placeFor 88 = .ok (.aload_n 0, 1) := by decide +kernel
theorem d_Mod_placeFor_89 : decode b_Mod_placeFor 89 = .ok (.getfield 23, 3) := by decide +kernel
theorem d_Mod_placeFor_92 : decode b_Mod_placeFor 92 = .ok (.iload_n 3, 1) := by decide +kernel
theorem d_Mod_placeFor_93 : decode b_Mod_placeFor 93 = .ok (.iaload, 1) := by decide +kernel
theorem d_Mod_placeFor_94 : decode b_Mod_placeFor 94 = .ok (.if_icmp .ge 6, 3) := by decide +kernel
theorem d_Mod_placeFor_97 : decode b_Mod_placeFor 97 = .ok (.iload 4, 2) := by decide +kernel
theorem d_Mod_placeFor_99 : decode b_Mod_placeFor 99 = .ok (.istore_n 3, 1) := by decide +kernel
theorem d_Mod_placeFor_100 : decode b_Mod_placeFor 100 = .ok (.iinc 4 1, 3) := by decide +kernel
theorem d_Mod_placeFor_103 : decode b_Mod_placeFor 103 = .ok (.goto (-85), 3) := by decide +kernel
theorem d_Mod_placeFor_106 : decode b_Mod_placeFor 106 = .ok (.iload_n 3, 1) := by decide +kernel
theorem d_Mod_placeFor_107 : decode b_Mod_placeFor 107 = .ok (.ireturn, 1) := by decide +kernel
end
section
theorem d_Mod_keptAt_0 : decode b_Mod_keptAt 0 = .ok (.bipush 8, 2) := by decide +kernel
theorem d_Mod_keptAt_2 : decode b_Mod_keptAt 2 = .ok (.istore_n 2, 1) := by decide +kernel
theorem d_Mod_keptAt_3 : decode b_Mod_keptAt 3 = .ok (.iload_n 2, 1) := by decide +kernel
theorem d_Mod_keptAt_4 : decode b_Mod_keptAt 4 = .ok (.bipush 8, 2) := by decide +kernel
theorem d_Mod_keptAt_6 : decode b_Mod_keptAt 6 = .ok (.aload_n 0, 1) := by decide +kernel
theorem d_Mod_keptAt_7 : decode b_Mod_keptAt 7 = .ok (.getfield 70, 3) := by decide +kernel
theorem d_Mod_keptAt_10 : decode b_Mod_keptAt 10 = .ok (.iadd, 1) := by decide +kernel
theorem d_Mod_keptAt_11 : decode b_Mod_keptAt 11 = .ok (.if_icmp .ge 30, 3) := by decide +kernel
theorem d_Mod_keptAt_14 : decode b_Mod_keptAt 14 = .ok (.aload_n 0, 1) := by decide +kernel
theorem d_Mod_keptAt_15 : decode b_Mod_keptAt 15 = .ok (.getfield 7, 3) := by decide +kernel
theorem d_Mod_keptAt_18 : decode b_Mod_keptAt 18 = .ok (.iload_n 2, 1) := by decide +kernel
theorem d_Mod_keptAt_19 : decode b_Mod_keptAt 19 = .ok (.baload, 1) := by decide +kernel
theorem d_Mod_keptAt_20 : decode b_Mod_keptAt 20 = .ok (.ifCond .eq 15, 3) := by decide +kernel
theorem d_Mod_keptAt_23 : decode b_Mod_keptAt 23 = .ok (.aload_n 0, 1) := by decide +kernel
theorem d_Mod_keptAt_24 : decode b_Mod_keptAt 24 = .ok (.getfield 13, 3) := by decide +kernel
theorem d_Mod_keptAt_27 : decode b_Mod_keptAt 27 = .ok (.iload_n 2, 1) := by decide +kernel
theorem d_Mod_keptAt_28 : decode b_Mod_keptAt 28 = .ok (.iaload, 1) := by decide +kernel
theorem d_Mod_keptAt_29 : decode b_Mod_keptAt 29 = .ok (.iload_n 1, 1) := by decide +kernel
theorem d_Mod_keptAt_30 : decode b_Mod_keptAt 30 = .ok (.if_icmp .ne 5, 3) := by decide +kernel
theorem d_Mod_keptAt_33 : decode b_Mod_keptAt 33 = .ok (.iload_n 2, 1) := by decide +kernel
theorem d_Mod_keptAt_34 : decode b_Mod_keptAt 34 = .ok (.ireturn, 1) := by decide +kernel
theorem d_Mod_keptAt_35 : decode b_Mod_keptAt 35 = .ok (.iinc 2 1, 3) := by decide +kernel
theorem d_Mod_keptAt_38 : decode b_Mod_keptAt 38 = .ok (.goto (-35), 3) := by decide +kernel
theorem d_Mod_keptAt_41 : decode b_Mod_keptAt 41 = .ok (.iconst (-1), 1) := by decide +kernel
theorem d_Mod_keptAt_42 : decode b_Mod_keptAt 42 = .ok (.ireturn, 1) := by decide +kernel
theorem d_Mod_copy_0 : decode b_Mod_copy 0 = .ok (.aload_n 0, 1) := by decide +kernel
theorem d_Mod_copy_1 : decode b_Mod_copy 1 = .ok (.getfield 7, 3) := by decide +kernel
theorem d_Mod_copy_4 : decode b_Mod_copy 4 = .ok (.iload_n 2, 1) := by decide +kernel
theorem d_Mod_copy_5 : decode b_Mod_copy 5 = .ok (.iconst 1, 1) := by decide +kernel
theorem d_Mod_copy_6 : decode b_Mod_copy 6 = .ok (.bastore, 1) := by decide +kernel
theorem d_Mod_copy_7 : decode b_Mod_copy 7 = .ok (.aload_n 0, 1) := by decide +kernel
theorem d_Mod_copy_8 : decode b_Mod_copy 8 = .ok (.getfield 13, 3) := by decide +kernel
theorem d_Mod_copy_11 : decode b_Mod_copy 11 = .ok (.iload_n 2, 1) := by decide +kernel
theorem d_Mod_copy_12 : decode b_Mod_copy 12 = .ok (.aload_n 0, 1) := by decide +kernel
theorem d_Mod_copy_13 : decode b_Mod_copy 13 = .ok (.getfield 13, 3) := by decide +kernel
theorem d_Mod_copy_16 : decode b_Mod_copy 16 = .ok (.iload_n 1, 1) := by decide +kernel
theorem d_Mod_copy_17 : decode b_Mod_copy 17 = .ok (.iaload, 1) := by decide +kernel
theorem d_Mod_copy_18 : decode b_Mod_copy 18 = .ok (.iastore, 1) := by decide +kernel
theorem d_Mod_copy_19 : decode b_Mod_copy 19 = .ok (.aload_n 0, 1) := by decide +kernel
theorem d_Mod_copy_20 : decode b_Mod_copy 20 = .ok (.getfield 17, 3) := by decide +kernel
theorem d_Mod_copy_23 : decode b_Mod_copy 23 = .ok (.iload_n 2, 1) := by decide +kernel
theorem d_Mod_copy_24 : decode b_Mod_copy 24 = .ok (.aload_n 0, 1) := by decide +kernel
theorem d_Mod_copy_25 : decode b_Mod_copy 25 = .ok (.getfield 17, 3) := by decide +kernel
theorem d_Mod_copy_28 : decode b_Mod_copy 28 = .ok (.iload_n 1, 1) := by decide +kernel
theorem d_Mod_copy_29 : decode b_Mod_copy 29 = .ok (.iaload, 1) := by decide +kernel
theorem d_Mod_copy_30 : decode b_Mod_copy 30 = .ok (.iastore, 1) := by decide +kernel
theorem d_Mod_copy_31 : decode b_Mod_copy 31 = .ok (.aload_n 0, 1) := by decide +kernel
theorem d_Mod_copy_32 : decode b_Mod_copy 32 = .ok (.getfield 20, 3) := by decide +kernel
theorem d_Mod_copy_35 : decode b_Mod_copy 35 = .ok (.iload_n 2, 1) := by decide +kernel
theorem d_Mod_copy_36 : decode b_Mod_copy 36 = .ok (.aload_n 0, 1) := by decide +kernel
theorem d_Mod_copy_37 : decode b_Mod_copy 37 = .ok (.getfield 20, 3) := by decide +kernel
theorem d_Mod_copy_40 : decode b_Mod_copy 40 = .ok (.iload_n 1, 1) := by decide +kernel
theorem d_Mod_copy_41 : decode b_Mod_copy 41 = .ok (.iaload, 1) := by decide +kernel
theorem d_Mod_copy_42 : decode b_Mod_copy 42 = .ok (.iastore, 1) := by decide +kernel
theorem d_Mod_copy_43 : decode b_Mod_copy 43 = .ok (.aload_n 0, 1) := by decide +kernel
theorem d_Mod_copy_44 : decode b_Mod_copy 44 = .ok (.getfield 23, 3) := by decide +kernel
theorem d_Mod_copy_47 : decode b_Mod_copy 47 = .ok (.iload_n 2, 1) := by decide +kernel
theorem d_Mod_copy_48 : decode b_Mod_copy 48 = .ok (.aload_n 0, 1) := by decide +kernel
theorem d_Mod_copy_49 : decode b_Mod_copy 49 = .ok (.getfield 23, 3) := by decide +kernel
theorem d_Mod_copy_52 : decode b_Mod_copy 52 = .ok (.iload_n 1, 1) := by decide +kernel
theorem d_Mod_copy_53 : decode b_Mod_copy 53 = .ok (.iaload, 1) := by decide +kernel
theorem d_Mod_copy_54 : decode b_Mod_copy 54 = .ok (.iastore, 1) := by decide +kernel
theorem d_Mod_copy_55 : decode b_Mod_copy 55 = .ok (.iconst 0, 1) := by decide +kernel
theorem d_Mod_copy_56 : decode b_Mod_copy 56 = .ok (.istore_n 3, 1) := by decide +kernel
theorem d_Mod_copy_57 : decode b_Mod_copy 57 = .ok (.iload_n 3, 1) := by decide +kernel
theorem d_Mod_copy_58 : decode b_Mod_copy 58 = .ok (.iconst 4, 1) := by decide +kernel
theorem d_Mod_copy_59 : decode b_Mod_copy 59 = .ok (.if_icmp .ge 29, 3) := by decide +kernel
theorem d_Mod_copy_62 : decode b_Mod_copy 62 = .ok (.aload_n 0, 1) := by decide +kernel
theorem d_Mod_copy_63 : decode b_Mod_copy 63 = .ok (.getfield 26, 3) := by decide +kernel
theorem d_Mod_copy_66 : decode b_Mod_copy 66 = .ok (.iconst 4, 1) := by decide +kernel
theorem d_Mod_copy_67 : decode b_Mod_copy 67 = .ok (.iload_n 2, 1) := by decide +kernel
theorem d_Mod_copy_68 : decode b_Mod_copy 68 = .ok (.imul, 1) := by decide +kernel
theorem d_Mod_copy_69 : decode b_Mod_copy 69 = .ok (.iload_n 3, 1) := by decide +kernel
theorem d_Mod_copy_70 : decode b_Mod_copy 70 = .ok (.iadd, 1) := by decide +kernel
theorem d_Mod_copy_71 : decode b_Mod_copy 71 = .ok (.aload_n 0, 1) := by decide +kernel
theorem d_Mod_copy_72 : decode b_Mod_copy 72 = .ok (.getfield 26, 3) := by decide +kernel
theorem d_Mod_copy_75 : decode b_Mod_copy 75 = .ok (.iconst 4, 1) := by decide +kernel
theorem d_Mod_copy_76 : decode b_Mod_copy 76 = .ok (.iload_n 1, 1) := by decide +kernel
theorem d_Mod_copy_77 : decode b_Mod_copy 77 = .ok (.imul, 1) := by decide +kernel
theorem d_Mod_copy_78 : decode b_Mod_copy 78 = .ok (.iload_n 3, 1) := by decide +kernel
theorem d_Mod_copy_79 : decode b_Mod_copy 79 = .ok (.iadd, 1) := by decide +kernel
theorem d_Mod_copy_80 : decode b_Mod_copy 80 = .ok (.iaload, 1) := by decide +kernel
theorem d_Mod_copy_81 : decode b_Mod_copy 81 = .ok (.iastore, 1) := by decide +kernel
theorem d_Mod_copy_82 : decode b_Mod_copy 82 = .ok (.iinc 3 1, 3) := by decide +kernel
theorem d_Mod_copy_85 : decode b_Mod_copy 85 = .ok (.goto (-28), 3) := by decide +kernel
theorem d_Mod_copy_88 : decode b_Mod_copy 88 = .ok (.iconst 0, 1) := by decide +kernel
theorem d_Mod_copy_89 : decode b_Mod_copy 89 = .ok (.istore_n 3, 1) := by decide +kernel
theorem d_Mod_copy_90 : decode b_Mod_copy 90 = .ok (.iload_n 3, 1) := by decide +kernel
theorem d_Mod_copy_91 : decode b_Mod_copy 91 = .ok (.sipush 160, 3) := by decide +kernel
theorem d_Mod_copy_94 : decode b_Mod_copy 94 = .ok (.if_icmp .ge 57, 3) := by decide +kernel
theorem d_Mod_copy_97 : decode b_Mod_copy 97 = .ok (.aload_n 0, 1) := by decide +kernel
theorem d_Mod_copy_98 : decode b_Mod_copy 98 = .ok (.getfield 29, 3) := by decide +kernel
theorem d_Mod_copy_101 : decode b_Mod_copy 101 = .ok (.sipush 160, 3) := by decide +kernel
theorem d_Mod_copy_104 : decode b_Mod_copy 104 = .ok (.iload_n 2, 1) := by decide +kernel
theorem d_Mod_copy_105 : decode b_Mod_copy 105 = .ok (.imul, 1) := by decide +kernel
theorem d_Mod_copy_106 : decode b_Mod_copy 106 = .ok (.iload_n 3, 1) := by decide +kernel
theorem d_Mod_copy_107 : decode b_Mod_copy 107 = .ok (.iadd, 1) := by decide +kernel
theorem d_Mod_copy_108 : decode b_Mod_copy 108 = .ok (.aload_n 0, 1) := by decide +kernel
theorem d_Mod_copy_109 : decode b_Mod_copy 109 = .ok (.getfield 29, 3) := by decide +kernel
theorem d_Mod_copy_112 : decode b_Mod_copy 112 = .ok (.sipush 160, 3) := by decide +kernel
theorem d_Mod_copy_115 : decode b_Mod_copy 115 = .ok (.iload_n 1, 1) := by decide +kernel
theorem d_Mod_copy_116 : decode b_Mod_copy 116 = .ok (.imul, 1) := by decide +kernel
theorem d_Mod_copy_117 : decode b_Mod_copy 117 = .ok (.iload_n 3, 1) := by decide +kernel
theorem d_Mod_copy_118 : decode b_Mod_copy 118 = .ok (.iadd, 1) := by decide +kernel
theorem d_Mod_copy_119 : decode b_Mod_copy 119 = .ok (.iaload, 1) := by decide +kernel
theorem d_Mod_copy_120 : decode b_Mod_copy 120 = .ok (.iastore, 1) := by decide +kernel
theorem d_Mod_copy_121 : decode b_Mod_copy 121 = .ok (.aload_n 0, 1) := by decide +kernel
theorem d_Mod_copy_122 : decode b_Mod_copy 122 = .ok (.getfield 32, 3) := by decide +kernel
theorem d_Mod_copy_125 : decode b_Mod_copy 125 = .ok (.sipush 160, 3) := by decide +kernel
theorem d_Mod_copy_128 : decode b_Mod_copy 128 = .ok (.iload_n 2, 1) := by decide +kernel
theorem d_Mod_copy_129 : decode b_Mod_copy 129 = .ok (.imul, 1) := by decide +kernel
theorem d_Mod_copy_130 : decode b_Mod_copy 130 = .ok (.iload_n 3, 1) := by decide +kernel
theorem d_Mod_copy_131 : decode b_Mod_copy 131 = .ok (.iadd, 1) := by decide +kernel
theorem d_Mod_copy_132 : decode b_Mod_copy 132 = .ok (.aload_n 0, 1) := by decide +kernel
theorem d_Mod_copy_133 : decode b_Mod_copy 133 = .ok (.getfield 32, 3) := by decide +kernel
theorem d_Mod_copy_136 : decode b_Mod_copy 136 = .ok (.sipush 160, 3) := by decide +kernel
theorem d_Mod_copy_139 : decode b_Mod_copy 139 = .ok (.iload_n 1, 1) := by decide +kernel
theorem d_Mod_copy_140 : decode b_Mod_copy 140 = .ok (.imul, 1) := by decide +kernel
theorem d_Mod_copy_141 : decode b_Mod_copy 141 = .ok (.iload_n 3, 1) := by decide +kernel
theorem d_Mod_copy_142 : decode b_Mod_copy 142 = .ok (.iadd, 1) := by decide +kernel
theorem d_Mod_copy_143 : decode b_Mod_copy 143 = .ok (.iaload, 1) := by decide +kernel
theorem d_Mod_copy_144 : decode b_Mod_copy 144 = .ok (.iastore, 1) := by decide +kernel
theorem d_Mod_copy_145 : decode b_Mod_copy 145 = .ok (.iinc 3 1, 3) := by decide +kernel
theorem d_Mod_copy_148 : decode b_Mod_copy 148 = .ok (.goto (-58), 3) := by decide +kernel
theorem d_Mod_copy_151 : decode b_Mod_copy 151 = .ok (.return_, 1) := by decide +kernel
theorem d_Mod_comes_0 : decode b_Mod_comes 0 = .ok (.aload_n 0, 1) := by decide +kernel
theorem d_Mod_comes_1 : decode b_Mod_comes 1 = .ok (.iload_n 2, 1) := by decide +kernel
theorem d_Mod_comes_2 : decode b_Mod_comes 2 = .ok (.invokevirtual 80, 3) := by decide +kernel
theorem d_Mod_comes_5 : decode b_Mod_comes 5 = .ok (.istore 6, 2) := by decide +kernel
theorem d_Mod_comes_7 : decode b_Mod_comes 7 = .ok (.iload 6, 2) := by decide +kernel
theorem d_Mod_comes_9 : decode b_Mod_comes 9 = .ok (.ifCond .lt 20, 3) := by decide +kernel
theorem d_Mod_comes_12 : decode b_Mod_comes 12 = .ok (.iload 4, 2) := by decide +kernel
theorem d_Mod_comes_14 : decode b_Mod_comes 14 = .ok (.bipush 8, 2) := by decide +kernel
theorem d_Mod_comes_16 : decode b_Mod_comes 16 = .ok (.if_icmp .ge 13, 3) := by decide +kernel
theorem d_Mod_comes_19 : decode b_Mod_comes 19 = .ok (.aload_n 0, 1) := by decide +kernel
theorem d_Mod_comes_20 : decode b_Mod_comes 20 = .ok (.iload 6, 2) := by decide +kernel
theorem d_Mod_comes_22 : decode b_Mod_comes 22 = .ok (.iload_n 1, 1) := by decide +kernel
theorem d_Mod_comes_23 : decode b_Mod_comes 23 = .ok (.invokevirtual 86, 3) := by decide +kernel
theorem d_Mod_comes_26 : decode b_Mod_comes 26 = .ok (.goto 8, 3) := by decide +kernel
theorem d_Mod_comes_29 : decode b_Mod_comes 29 = .ok (.aload_n 0, 1) := by decide +kernel
theorem d_Mod_comes_30 : decode b_Mod_comes 30 = .ok (.iload_n 1, 1) := by decide +kernel
theorem d_Mod_comes_31 : decode b_Mod_comes 31 = .ok (.invokevirtual 116, 3) := by decide +kernel
theorem d_Mod_comes_34 : decode b_Mod_comes 34 = .ok (.aload_n 0, 1) := by decide +kernel
theorem d_Mod_comes_35 : decode b_Mod_comes 35 = .ok (.getfield 7, 3) := by decide +kernel
theorem d_Mod_comes_38 : decode b_Mod_comes 38 = .ok (.iload_n 1, 1) := by decide +kernel
theorem d_Mod_comes_39 : decode b_Mod_comes 39 = .ok (.iconst 1, 1) := by decide +kernel
theorem d_Mod_comes_40 : decode b_Mod_comes 40 = .ok (.bastore, 1) := by decide +kernel
theorem d_Mod_comes_41 : decode b_Mod_comes 41 = .ok (.aload_n 0, 1) := by decide +kernel
theorem d_Mod_comes_42 : decode b_Mod_comes 42 = .ok (.getfield 13, 3) := by decide +kernel
theorem d_Mod_comes_45 : decode b_Mod_comes 45 = .ok (.iload_n 1, 1) := by decide +kernel
theorem d_Mod_comes_46 : decode b_Mod_comes 46 = .ok (.iload_n 2, 1) := by decide +kernel
theorem d_Mod_comes_47 : decode b_Mod_comes 47 = .ok (.iastore, 1) := by decide +kernel
theorem d_Mod_comes_48 : decode b_Mod_comes 48 = .ok (.aload_n 0, 1) := by decide +kernel
theorem d_Mod_comes_49 : decode b_Mod_comes 49 = .ok (.getfield 17, 3) := by decide +kernel
theorem d_Mod_comes_52 : decode b_Mod_comes 52 = .ok (.iload_n 1, 1) := by decide +kernel
theorem d_Mod_comes_53 : decode b_Mod_comes 53 = .ok (.iload_n 3, 1) := by decide +kernel
theorem d_Mod_comes_54 : decode b_Mod_comes 54 = .ok (.iastore, 1) := by decide +kernel
theorem d_Mod_comes_55 : decode b_Mod_comes 55 = .ok (.aload_n 0, 1) := by decide +kernel
theorem d_Mod_comes_56 : decode b_Mod_comes 56 = .ok (.getfield 20, 3) := by decide +kernel
theorem d_Mod_comes_59 : decode b_Mod_comes 59 = .ok (.iload_n 1, 1) := by decide +kernel
theorem d_Mod_comes_60 : decode b_Mod_comes 60 = .ok (.iload 5, 2) := by decide +kernel
theorem d_Mod_comes_62 : decode b_Mod_comes 62 = .ok (.iastore, 1) := by decide +kernel
theorem d_Mod_comes_63 : decode b_Mod_comes 63 = .ok (.return_, 1) := by decide +kernel
theorem d_Mod_blank_0 : decode b_Mod_blank 0 = .ok (.iconst 0, 1) := by decide +kernel
theorem d_Mod_blank_1 : decode b_Mod_blank 1 = .ok (.istore_n 2, 1) := by decide +kernel
theorem d_Mod_blank_2 : decode b_Mod_blank 2 = .ok (.iload_n 2, 1) := by decide +kernel
theorem d_Mod_blank_3 : decode b_Mod_blank 3 = .ok (.iconst 4, 1) := by decide +kernel
theorem d_Mod_blank_4 : decode b_Mod_blank 4 = .ok (.if_icmp .ge 20, 3) := by decide +kernel
theorem d_Mod_blank_7 : decode b_Mod_blank 7 = .ok (.aload_n 0, 1) := by decide +kernel
theorem d_Mod_blank_8 : decode b_Mod_blank 8 = .ok (.getfield 26, 3) := by decide +kernel
theorem d_Mod_blank_11 : decode b_Mod_blank 11 = .ok (.iconst 4, 1) := by decide +kernel
theorem d_Mod_blank_12 : decode b_Mod_blank 12 = .ok (.iload_n 1, 1) := by decide +kernel
theorem d_Mod_blank_13 : decode b_Mod_blank 13 = .ok (.imul, 1) := by decide +kernel
theorem d_Mod_blank_14 : decode b_Mod_blank 14 = .ok (.iload_n 2, 1) := by decide +kernel
theorem d_Mod_blank_15 : decode b_Mod_blank 15 = .ok (.iadd, 1) := by decide +kernel
theorem d_Mod_blank_16 : decode b_Mod_blank 16 = .ok (.iconst (-1), 1) := by decide +kernel
theorem d_Mod_blank_17 : decode b_Mod_blank 17 = .ok (.iastore, 1) := by decide +kernel
theorem d_Mod_blank_18 : decode b_Mod_blank 18 = .ok (.iinc 2 1, 3) := by decide +kernel
theorem d_Mod_blank_21 : decode b_Mod_blank 21 = .ok (.goto (-19), 3) := by decide +kernel
theorem d_Mod_blank_24 : decode b_Mod_blank 24 = .ok (.iconst 0, 1) := by decide +kernel
theorem d_Mod_blank_25 : decode b_Mod_blank 25 = .ok (.istore_n 2, 1) := by decide +kernel
theorem d_Mod_blank_26 : decode b_Mod_blank 26 = .ok (.iload_n 2, 1) := by decide +kernel
theorem d_Mod_blank_27 : decode b_Mod_blank 27 = .ok (.sipush 160, 3) := by decide +kernel
theorem d_Mod_blank_30 : decode b_Mod_blank 30 = .ok (.if_icmp .ge 36, 3) := by decide +kernel
theorem d_Mod_blank_33 : decode b_Mod_blank 33 = .ok (.aload_n 0, 1) := by decide +kernel
theorem d_Mod_blank_34 : decode b_Mod_blank 34 = .ok (.getfield 29, 3) := by decide +kernel
theorem d_Mod_blank_37 : decode b_Mod_blank 37 = .ok (.sipush 160, 3) := by decide +kernel
theorem d_Mod_blank_40 : decode b_Mod_blank 40 = .ok (.iload_n 1, 1) := by decide +kernel
theorem d_Mod_blank_41 : decode b_Mod_blank 41 = .ok (.imul, 1) := by decide +kernel
theorem d_Mod_blank_42 : decode b_Mod_blank 42 = .ok (.iload_n 2, 1) := by decide +kernel
theorem d_Mod_blank_43 : decode b_Mod_blank 43 = .ok (.iadd, 1) := by decide +kernel
theorem d_Mod_blank_44 : decode b_Mod_blank 44 = .ok (.bipush 32, 2) := by decide +kernel
theorem d_Mod_blank_46 : decode b_Mod_blank 46 = .ok (.iastore, 1) := by decide +kernel
theorem d_Mod_blank_47 : decode b_Mod_blank 47 = .ok (.aload_n 0, 1) := by decide +kernel
theorem d_Mod_blank_48 : decode b_Mod_blank 48 = .ok (.getfield 32, 3) := by decide +kernel
theorem d_Mod_blank_51 : decode b_Mod_blank 51 = .ok (.sipush 160, 3) := by decide +kernel
theorem d_Mod_blank_54 : decode b_Mod_blank 54 = .ok (.iload_n 1, 1) := by decide +kernel
theorem d_Mod_blank_55 : decode b_Mod_blank 55 = .ok (.imul, 1) := by decide +kernel
theorem d_Mod_blank_56 : decode b_Mod_blank 56 = .ok (.iload_n 2, 1) := by decide +kernel
theorem d_Mod_blank_57 : decode b_Mod_blank 57 = .ok (.iadd, 1) := by decide +kernel
theorem d_Mod_blank_58 : decode b_Mod_blank 58 = .ok (.iconst 0, 1) := by decide +kernel
theorem d_Mod_blank_59 : decode b_Mod_blank 59 = .ok (.iastore, 1) := by decide +kernel
theorem d_Mod_blank_60 : decode b_Mod_blank 60 = .ok (.iinc 2 1, 3) := by decide +kernel
theorem d_Mod_blank_63 : decode b_Mod_blank 63 = .ok (.goto (-37), 3) := by decide +kernel
theorem d_Mod_blank_66 : decode b_Mod_blank 66 = .ok (.return_, 1) := by decide +kernel
theorem d_Mod_letter_0 : decode b_Mod_letter 0 = .ok (.iload_n 1, 1) := by decide +kernel
theorem d_Mod_letter_1 : decode b_Mod_letter 1 = .ok (.invokestatic 73, 3) := by decide +kernel
theorem d_Mod_letter_4 : decode b_Mod_letter 4 = .ok (.ifCond .ne 15, 3) := by decide +kernel
theorem d_Mod_letter_7 : decode b_Mod_letter 7 = .ok (.aload_n 0, 1) := by decide +kernel
theorem d_Mod_letter_8 : decode b_Mod_letter 8 = .ok (.getfield 41, 3) := by decide +kernel
theorem d_Mod_letter_11 : decode b_Mod_letter 11 = .ok (.iconst 4, 1) := by decide +kernel
theorem d_Mod_letter_12 : decode b_Mod_letter 12 = .ok (.dup2, 1) := by decide +kernel
theorem d_Mod_letter_13 : decode b_Mod_letter 13 = .ok (.iaload, 1) := by decide +kernel
theorem d_Mod_letter_14 : decode b_Mod_letter 14 = .ok (.iconst 1, 1) := by decide +kernel
theorem d_Mod_letter_15 : decode b_Mod_letter 15 = .ok (.iadd, 1) := by decide +kernel
theorem d_Mod_letter_16 : decode b_Mod_letter 16 = .ok (.iastore, 1) := by decide +kernel
theorem d_Mod_letter_17 : decode b_Mod_letter 17 = .ok (.iconst (-1), 1) := by decide +kernel
theorem d_Mod_letter_18 : decode b_Mod_letter 18 = .ok (.ireturn, 1) := by decide +kernel
theorem d_Mod_letter_19 : decode b_Mod_letter 19 = .ok (.iload_n 1, 1) := by decide +kernel
theorem d_Mod_letter_20 : decode b_Mod_letter 20 = .ok (.bipush 127, 2) := by decide +kernel
theorem d_Mod_letter_22 : decode b_Mod_letter 22 = .ok (.iand, 1) := by decide +kernel
theorem d_Mod_letter_23 : decode b_Mod_letter 23 = .ok (.ireturn, 1) := by decide +kernel
theorem d_Mod_takeOverlays_0 : decode b_Mod_takeOverlays 0 = .ok (.iconst 0, 1) := by decide +kernel
theorem d_Mod_takeOverlays_1 : decode b_Mod_takeOverlays 1 = .ok (.istore_n 2, 1) := by decide +kernel
theorem d_Mod_takeOverlays_2 : decode b_Mod_takeOverlays 2 = .ok (.iconst 0, 1) := by decide +kernel
theorem d_Mod_takeOverlays_3 : decode b_Mod_takeOverlays 3 = .ok (.istore_n 3, 1) := by decide +kernel
theorem d_Mod_takeOverlays_4 : decode b_Mod_takeOverlays 4 = .ok (.iload_n 3, 1) := by decide +kernel
theorem d_Mod_takeOverlays_5 : decode b_Mod_takeOverlays 5 = .ok (.bipush 6, 2) := by decide +kernel
theorem d_Mod_takeOverlays_7 : decode b_Mod_takeOverlays 7 = .ok (.if_icmp .ge 201, 3) := by decide +kernel
theorem d_Mod_takeOverlays_10 : decode b_Mod_takeOverlays 10 = .ok (.iconst 2, 1) := by decide +kernel
theorem d_Mod_takeOverlays_11 : decode b_Mod_takeOverlays 11 = .ok (.iconst 3, 1) := by decide +kernel
theorem d_Mod_takeOverlays_12 : decode b_Mod_takeOverlays 12 = .ok (.iload_n 3, 1) := by decide +kernel
theorem d_Mod_takeOverlays_13 : decode b_Mod_takeOverlays 13 = .ok (.imul, 1) := by decide +kernel
theorem d_Mod_takeOverlays_14 : decode b_Mod_takeOverlays 14 = .ok (.iadd, 1) := by decide +kernel
theorem d_Mod_takeOverlays_15 : decode b_Mod_takeOverlays 15 = .ok (.istore 4, 2) := by decide +kernel
theorem d_Mod_takeOverlays_17 : decode b_Mod_takeOverlays 17 = .ok (.aload_n 0, 1) := by decide +kernel
theorem d_Mod_takeOverlays_18 : decode b_Mod_takeOverlays 18 = .ok (.aload_n 0, 1) := by decide +kernel
theorem d_Mod_takeOverlays_19 : decode b_Mod_takeOverlays 19 = .ok (.getfield 38, 3) := by decide +kernel
theorem d_Mod_takeOverlays_22 : decode b_Mod_takeOverlays 22 = .ok (.iload 4, 2) := by decide +kernel
theorem d_Mod_takeOverlays_24 : decode b_Mod_takeOverlays 24 = .ok (.iaload, 1) := by decide +kernel
theorem d_Mod_takeOverlays_25 : decode b_Mod_takeOverlays 25 = .ok (.sipush 256, 3) := by decide +kernel
theorem d_Mod_takeOverlays_28 : decode b_Mod_takeOverlays 28 = .ok (.aload_n 0, 1) := by decide +kernel
theorem d_Mod_takeOverlays_29 : decode b_Mod_takeOverlays 29 = .ok (.getfield 38, 3) := by decide +kernel
theorem d_Mod_takeOverlays_32 : decode b_Mod_takeOverlays 32 = .ok (.iload 4, 2) := by decide +kernel
theorem d_Mod_takeOverlays_34 : decode b_Mod_takeOverlays 34 = .ok (.iconst 1, 1) := by decide +kernel
theorem d_Mod_takeOverlays_35 : decode b_Mod_takeOverlays 35 = .ok (.iadd, 1) := by decide +kernel
theorem d_Mod_takeOverlays_36 : decode b_Mod_takeOverlays 36 = .ok (.iaload, 1) := by decide +kernel
theorem d_Mod_takeOverlays_37 : decode b_Mod_takeOverlays 37 = .ok (.imul, 1) := by decide +kernel
theorem d_Mod_takeOverlays_38 : decode b_Mod_takeOverlays 38 = .ok (.iadd, 1) := by decide +kernel
theorem d_Mod_takeOverlays_39 : decode b_Mod_takeOverlays 39 = .ok (.ldc 119, 2) := by decide +kernel
theorem d_Mod_takeOverlays_41 : decode b_Mod_takeOverlays 41 = .ok (.aload_n 0, 1) := by decide +kernel
theorem d_Mod_takeOverlays_42 : decode b_Mod_takeOverlays 42 = .ok (.getfield 38, 3) := by decide +kernel
theorem d_Mod_takeOverlays_45 : decode b_Mod_takeOverlays 45 = .ok (.iload 4, 2) := by decide +kernel
theorem d_Mod_takeOverlays_47 : decode b_Mod_takeOverlays 47 = .ok (.iconst 2, 1) := by decide +kernel
theorem d_Mod_takeOverlays_48 : decode b_Mod_takeOverlays 48 = .ok (.iadd, 1) := by decide +kernel
theorem d_Mod_takeOverlays_49 : decode b_Mod_takeOverlays 49 = .ok (.iaload, 1) := by decide +kernel
theorem d_Mod_takeOverlays_50 : decode b_Mod_takeOverlays 50 = .ok (.imul, 1) := by decide +kernel
theorem d_Mod_takeOverlays_51 : decode b_Mod_takeOverlays 51 = .ok (.iadd, 1) := by decide +kernel
theorem d_Mod_takeOverlays_52 : decode b_Mod_takeOverlays 52 = .ok (.invokevirtual 120, 3) := by decide +kernel
theorem d_Mod_takeOverlays_55 : decode b_Mod_takeOverlays 55 = .ok (.istore 5, 2) := by decide +kernel
theorem d_Mod_takeOverlays_57 : decode b_Mod_takeOverlays 57 = .ok (.iload 5, 2) := by decide +kernel
theorem d_Mod_takeOverlays_59 : decode b_Mod_takeOverlays 59 = .ok (.ifCond .ge 8, 3) := by decide +kernel
theorem d_Mod_takeOverlays_62 : decode b_Mod_takeOverlays 62 = .ok (.bipush 63, 2) := by decide +kernel
theorem d_Mod_takeOverlays_64 : decode b_Mod_takeOverlays 64 = .ok (.goto 11, 3) := by decide +kernel
theorem d_Mod_takeOverlays_67 : decode b_Mod_takeOverlays 67 = .ok (.iload 5, 2) := by decide +kernel
theorem d_Mod_takeOverlays_69 : decode b_Mod_takeOverlays 69 = .ok (.iconst 0, 1) := by decide +kernel
theorem d_Mod_takeOverlays_70 : decode b_Mod_takeOverlays 70 = .ok (.bipush 6, 2) := by decide +kernel
theorem d_Mod_takeOverlays_72 : decode b_Mod_takeOverlays 72 = .ok (.invokestatic 123, 3) := by decide +kernel
theorem d_Mod_takeOverlays_75 : decode b_Mod_takeOverlays 75 = .ok (.istore 6, 2) := by decide +kernel
theorem d_Mod_takeOverlays_77 : decode b_Mod_takeOverlays 77 = .ok (.iload 5, 2) := by decide +kernel
theorem d_Mod_takeOverlays_79 : decode b_Mod_takeOverlays 79 = .ok (.ifCond .ge 7, 3) := by decide +kernel
theorem d_Mod_takeOverlays_82 : decode b_Mod_takeOverlays 82 = .ok (.iconst 0, 1) := by decide +kernel
theorem d_Mod_takeOverlays_83 : decode b_Mod_takeOverlays 83 = .ok (.goto 11, 3) := by decide +kernel
theorem d_Mod_takeOverlays_86 : decode b_Mod_takeOverlays 86 = .ok (.iload 5, 2) := by decide +kernel
theorem d_Mod_takeOverlays_88 : decode b_Mod_takeOverlays 88 = .ok (.bipush 6, 2) := by decide +kernel
theorem d_Mod_takeOverlays_90 : decode b_Mod_takeOverlays 90 = .ok (.iconst 5, 1) := by decide +kernel
theorem d_Mod_takeOverlays_91 : decode b_Mod_takeOverlays 91 = .ok (.invokestatic 123, 3) := by decide +kernel
theorem d_Mod_takeOverlays_94 : decode b_Mod_takeOverlays 94 = .ok (.istore 7, 2) := by decide +kernel
theorem d_Mod_takeOverlays_96 : decode b_Mod_takeOverlays 96 = .ok (.iload 5, 2) := by decide +kernel
theorem d_Mod_takeOverlays_98 : decode b_Mod_takeOverlays 98 = .ok (.ifCond .ge 7, 3) := by decide +kernel
theorem d_Mod_takeOverlays_101 : decode b_Mod_takeOverlays 101 = .ok (.iconst 0, 1) := by decide +kernel
theorem d_Mod_takeOverlays_102 : decode b_Mod_takeOverlays 102 = .ok (.goto 12, 3) := by decide +kernel
theorem d_Mod_takeOverlays_105 : decode b_Mod_takeOverlays 105 = .ok (.iload 5, 2) := by decide +kernel
theorem d_Mod_takeOverlays_107 : decode b_Mod_takeOverlays 107 = .ok (.bipush 11, 2) := by decide +kernel
theorem d_Mod_takeOverlays_109 : decode b_Mod_takeOverlays 109 = .ok (.bipush 7, 2) := by decide +kernel
theorem d_Mod_takeOverlays_111 : decode b_Mod_takeOverlays 111 = .ok (.invokestatic 123, 3) := by decide +kernel
theorem d_Mod_takeOverlays_114 : decode b_Mod_takeOverlays 114 = .ok (.istore 8, 2) := by decide +kernel
theorem d_Mod_takeOverlays_116 : decode b_Mod_takeOverlays 116 = .ok (.iload 6, 2) := by decide +kernel
theorem d_Mod_takeOverlays_118 : decode b_Mod_takeOverlays 118 = .ok (.bipush 40, 2) := by decide +kernel
theorem d_Mod_takeOverlays_120 : decode b_Mod_takeOverlays 120 = .ok (.if_icmp .lt 22, 3) := by decide +kernel
theorem d_Mod_takeOverlays_123 : decode b_Mod_takeOverlays 123 = .ok (.iload 6, 2) := by decide +kernel
theorem d_Mod_takeOverlays_125 : decode b_Mod_takeOverlays 125 = .ok (.bipush 48, 2) := by decide +kernel
theorem d_Mod_takeOverlays_127 : decode b_Mod_takeOverlays 127 = .ok (.if_icmp .ge 15, 3) := by decide +kernel
theorem d_Mod_takeOverlays_130 : decode b_Mod_takeOverlays 130 = .ok (.iload 7, 2) := by decide +kernel
theorem d_Mod_takeOverlays_132 : decode b_Mod_takeOverlays 132 = .ok (.iconst 4, 1) := by decide +kernel
theorem d_Mod_takeOverlays_133 : decode b_Mod_takeOverlays 133 = .ok (.if_icmp .ne 9, 3) := by decide +kernel
theorem d_Mod_takeOverlays_136 : decode b_Mod_takeOverlays 136 = .ok (.iload 6, 2) := by decide +kernel
theorem d_Mod_takeOverlays_138 : decode b_Mod_takeOverlays 138 = .ok (.bipush 40, 2) := by decide +kernel
theorem d_Mod_takeOverlays_140 : decode b_Mod_takeOverlays 140 = .ok (.isub, 1) := by decide +kernel
theorem d_Mod_takeOverlays_141 : decode b_Mod_takeOverlays 141 = .ok (.istore_n 2, 1) := by decide +kernel
theorem d_Mod_takeOverlays_142 : decode b_Mod_takeOverlays 142 = .ok (.iload 6, 2) := by decide +kernel
theorem d_Mod_takeOverlays_144 : decode b_Mod_takeOverlays 144 = .ok (.bipush 20, 2) := by decide +kernel
theorem d_Mod_takeOverlays_146 : decode b_Mod_takeOverlays 146 = .ok (.if_icmp .ge 56, 3) := by decide +kernel
theorem d_Mod_takeOverlays_149 : decode b_Mod_takeOverlays 149 = .ok (.iload 7, 2) := by decide +kernel
theorem d_Mod_takeOverlays_151 : decode b_Mod_takeOverlays 151 = .ok (.bipush 15, 2) := by decide +kernel
theorem d_Mod_takeOverlays_153 : decode b_Mod_takeOverlays 153 = .ok (.if_icmp .lt 49, 3) := by decide +kernel
theorem d_Mod_takeOverlays_156 : decode b_Mod_takeOverlays 156 = .ok (.aload_n 0, 1) := by decide +kernel
theorem d_Mod_takeOverlays_157 : decode b_Mod_takeOverlays 157 = .ok (.getfield 32, 3) := by decide +kernel
theorem d_Mod_takeOverlays_160 : decode b_Mod_takeOverlays 160 = .ok (.sipush 160, 3) := by decide +kernel
theorem d_Mod_takeOverlays_163 : decode b_Mod_takeOverlays 163 = .ok (.iload_n 1, 1) := by decide +kernel
theorem d_Mod_takeOverlays_164 : decode b_Mod_takeOverlays 164 = .ok (.imul, 1) := by decide +kernel
theorem d_Mod_takeOverlays_165 : decode b_Mod_takeOverlays 165 = .ok (.bipush 20, 2) := by decide +kernel
theorem d_Mod_takeOverlays_167 : decode b_Mod_takeOverlays 167 = .ok (.iload_n 2, 1) := by decide +kernel
theorem d_Mod_takeOverlays_168 : decode b_Mod_takeOverlays 168 = .ok (.imul, 1) := by decide +kernel
theorem d_Mod_takeOverlays_169 : decode b_Mod_takeOverlays 169 = .ok (.iadd, 1) := by decide +kernel
theorem d_Mod_takeOverlays_170 : decode b_Mod_takeOverlays 170 = .ok (.iload 6, 2) := by decide +kernel
theorem d_Mod_takeOverlays_172 : decode b_Mod_takeOverlays 172 = .ok (.iadd, 1) := by decide +kernel
theorem d_Mod_takeOverlays_173 : decode b_Mod_takeOverlays 173 = .ok (.iload 7, 2) := by decide +kernel
theorem d_Mod_takeOverlays_175 : decode b_Mod_takeOverlays 175 = .ok (.bipush 15, 2) := by decide +kernel
theorem d_Mod_takeOverlays_177 : decode b_Mod_takeOverlays 177 = .ok (.if_icmp .ne 12, 3) := by decide +kernel
theorem d_Mod_takeOverlays_180 : decode b_Mod_takeOverlays 180 = .ok (.iload 8, 2) := by decide +kernel
theorem d_Mod_takeOverlays_182 : decode b_Mod_takeOverlays 182 = .ok (.sipush 128, 3) := by decide +kernel
theorem d_Mod_takeOverlays_185 : decode b_Mod_takeOverlays 185 = .ok (.iadd, 1) := by decide +kernel
theorem d_Mod_takeOverlays_186 : decode b_Mod_takeOverlays 186 = .ok (.goto 15, 3) := by decide +kernel
theorem d_Mod_takeOverlays_189 : decode b_Mod_takeOverlays 189 = .ok (.iload 8, 2) := by decide +kernel
theorem d_Mod_takeOverlays_191 : decode b_Mod_takeOverlays 191 = .ok (.sipush 256, 3) := by decide +kernel
theorem d_Mod_takeOverlays_194 : decode b_Mod_takeOverlays 194 = .ok (.iload 7, 2) := by decide +kernel
theorem d_Mod_takeOverlays_196 : decode b_Mod_takeOverlays 196 = .ok (.bipush 15, 2) := by decide +kernel
theorem d_Mod_takeOverlays_198 : decode b_Mod_takeOverlays 198 = .ok (.isub, 1) := by decide +kernel
theorem d_Mod_takeOverlays_199 : decode b_Mod_takeOverlays 199 = .ok (.imul, 1) := by decide +kernel
theorem d_Mod_takeOverlays_200 : decode b_Mod_takeOverlays 200 = .ok (.iadd, 1) := by decide +kernel
theorem d_Mod_takeOverlays_201 : decode b_Mod_takeOverlays 201 = .ok (.iastore, 1) := by decide +kernel
theorem d_Mod_takeOverlays_202 : decode b_Mod_takeOverlays 202 = .ok (.iinc 3 1, 3) := by decide +kernel
theorem d_Mod_takeOverlays_205 : decode b_Mod_takeOverlays 205 = .ok (.goto (-201), 3) := by decide +kernel
theorem d_Mod_takeOverlays_208 : decode b_Mod_takeOverlays 208 = .ok (.return_, 1) := by decide +kernel
theorem d_Mod_mended_0 : decode b_Mod_mended 0 = .ok (.iconst 0, 1) := by decide +kernel
theorem d_Mod_mended_1 : decode b_Mod_mended 1 = .ok (.istore_n 2, 1) := by decide +kernel
theorem d_Mod_mended_2 : decode b_Mod_mended 2 = .ok (.iconst 0, 1) := by decide +kernel
theorem d_Mod_mended_3 : decode b_Mod_mended 3 = .ok (.istore_n 3, 1) := by decide +kernel
theorem d_Mod_mended_4 : decode b_Mod_mended 4 = .ok (.iload_n 3, 1) := by decide +kernel
theorem d_Mod_mended_5 : decode b_Mod_mended 5 = .ok (.iconst 5, 1) := by decide +kernel
theorem d_Mod_mended_6 : decode b_Mod_mended 6 = .ok (.if_icmp .ge 73, 3) := by decide +kernel
theorem d_Mod_mended_9 : decode b_Mod_mended 9 = .ok (.iconst 0, 1) := by decide +kernel
theorem d_Mod_mended_10 : decode b_Mod_mended 10 = .ok (.istore 4, 2) := by decide +kernel
theorem d_Mod_mended_12 : decode b_Mod_mended 12 = .ok (.iconst 1, 1) := by decide +kernel
theorem d_Mod_mended_13 : decode b_Mod_mended 13 = .ok (.istore 5, 2) := by decide +kernel
theorem d_Mod_mended_15 : decode b_Mod_mended 15 = .ok (.iload 5, 2) := by decide +kernel
theorem d_Mod_mended_17 : decode b_Mod_mended 17 = .ok (.bipush 24, 2) := by decide +kernel
theorem d_Mod_mended_19 : decode b_Mod_mended 19 = .ok (.if_icmp .ge 37, 3) := by decide +kernel
theorem d_Mod_mended_22 : decode b_Mod_mended 22 = .ok (.iload 5, 2) := by decide +kernel
theorem d_Mod_mended_24 : decode b_Mod_mended 24 = .ok (.iload_n 3, 1) := by decide +kernel
theorem d_Mod_mended_25 : decode b_Mod_mended 25 = .ok (.ishr, 1) := by decide +kernel
theorem d_Mod_mended_26 : decode b_Mod_mended 26 = .ok (.iconst 1, 1) := by decide +kernel
theorem d_Mod_mended_27 : decode b_Mod_mended 27 = .ok (.iand, 1) := by decide +kernel
theorem d_Mod_mended_28 : decode b_Mod_mended 28 = .ok (.iconst 1, 1) := by decide +kernel
theorem d_Mod_mended_29 : decode b_Mod_mended 29 = .ok (.if_icmp .ne 17, 3) := by decide +kernel
theorem d_Mod_mended_32 : decode b_Mod_mended 32 = .ok (.iload 4, 2) := by decide +kernel
theorem d_Mod_mended_34 : decode b_Mod_mended 34 = .ok (.iload_n 1, 1) := by decide +kernel
theorem d_Mod_mended_35 : decode b_Mod_mended 35 = .ok (.iload 5, 2) := by decide +kernel
theorem d_Mod_mended_37 : decode b_Mod_mended 37 = .ok (.iconst 1, 1) := by decide +kernel
theorem d_Mod_mended_38 : decode b_Mod_mended 38 = .ok (.isub, 1) := by decide +kernel
theorem d_Mod_mended_39 : decode b_Mod_mended 39 = .ok (.ishr, 1) := by decide +kernel
theorem d_Mod_mended_40 : decode b_Mod_mended 40 = .ok (.iconst 1, 1) := by decide +kernel
theorem d_Mod_mended_41 : decode b_Mod_mended 41 = .ok (.iand, 1) := by decide +kernel
theorem d_Mod_mended_42 : decode b_Mod_mended 42 = .ok (.iadd, 1) := by decide +kernel
theorem d_Mod_mended_43 : decode b_Mod_mended 43 = .ok (.goto 5, 3) := by decide +kernel
theorem d_Mod_mended_46 : decode b_Mod_mended 46 = .ok (.iload 4, 2) := by decide +kernel
theorem d_Mod_mended_48 : decode b_Mod_mended 48 = .ok (.istore 4, 2) := by decide +kernel
theorem d_Mod_mended_50 : decode b_Mod_mended 50 = .ok (.iinc 5 1, 3) := by decide +kernel
theorem d_Mod_mended_53 : decode b_Mod_mended 53 = .ok (.goto (-38), 3) := by decide +kernel
theorem d_Mod_mended_56 : decode b_Mod_mended 56 = .ok (.iload 4, 2) := by decide +kernel
theorem d_Mod_mended_58 : decode b_Mod_mended 58 = .ok (.iconst 2, 1) := by decide +kernel
theorem d_Mod_mended_59 : decode b_Mod_mended 59 = .ok (.irem, 1) := by decide +kernel
theorem d_Mod_mended_60 : decode b_Mod_mended 60 = .ok (.ifCond .ne 11, 3) := by decide +kernel
theorem d_Mod_mended_63 : decode b_Mod_mended 63 = .ok (.iload_n 2, 1) := by decide +kernel
theorem d_Mod_mended_64 : decode b_Mod_mended 64 = .ok (.iconst 1, 1) := by decide +kernel
theorem d_Mod_mended_65 : decode b_Mod_mended 65 = .ok (.iload_n 3, 1) := by decide +kernel
theorem d_Mod_mended_66 : decode b_Mod_mended 66 = .ok (.ishl, 1) := by decide +kernel
theorem d_Mod_mended_67 : decode b_Mod_mended 67 = .ok (.iadd, 1) := by decide +kernel
theorem d_Mod_mended_68 : decode b_Mod_mended 68 = .ok (.goto 4, 3) := by decide +kernel
theorem d_Mod_mended_71 : decode b_Mod_mended 71 = .ok (.iload_n 2, 1) := by decide +kernel
theorem d_Mod_mended_72 : decode b_Mod_mended 72 = .ok (.istore_n 2, 1) := by decide +kernel
theorem d_Mod_mended_73 : decode b_Mod_mended 73 = .ok (.iinc 3 1, 3) := by decide +kernel
theorem d_Mod_mended_76 : decode b_Mod_mended 76 = .ok (.goto (-72), 3) := by decide +kernel
theorem d_Mod_mended_79 : decode b_Mod_mended 79 = .ok (.iload_n 1, 1) := by decide +kernel
theorem d_Mod_mended_80 : decode b_Mod_mended 80 = .ok (.invokestatic 73, 3) := by decide +kernel
theorem d_Mod_mended_83 : decode b_Mod_mended 83 = .ok (.iconst 1, 1) := by decide +kernel
theorem d_Mod_mended_84 : decode b_Mod_mended 84 = .ok (.if_icmp .ne 7, 3) := by decide +kernel
theorem d_Mod_mended_87 : decode b_Mod_mended 87 = .ok (.iconst 1, 1) := by decide +kernel
theorem d_Mod_mended_88 : decode b_Mod_mended 88 = .ok (.goto 4, 3) := by decide +kernel
theorem d_Mod_mended_91 : decode b_Mod_mended 91 = .ok (.iconst 0, 1) := by decide +kernel
theorem d_Mod_mended_92 : decode b_Mod_mended 92 = .ok (.istore_n 3, 1) := by decide +kernel
theorem d_Mod_mended_93 : decode b_Mod_mended 93 = .ok (.iload_n 3, 1) := by decide +kernel
theorem d_Mod_mended_94 : decode b_Mod_mended 94 = .ok (.ifCond .eq 9, 3) := by decide +kernel
theorem d_Mod_mended_97 : decode b_Mod_mended 97 = .ok (.iload_n 2, 1) := by decide +kernel
theorem d_Mod_mended_98 : decode b_Mod_mended 98 = .ok (.ifCond .ne 5, 3) := by decide +kernel
theorem d_Mod_mended_101 : decode b_Mod_mended 101 = .ok (.iload_n 1, 1) := by decide +kernel
theorem d_Mod_mended_102 : decode b_Mod_mended 102 = .ok (.ireturn, 1) := by decide +kernel
theorem d_Mod_mended_103 : decode b_Mod_mended 103 = .ok (.iload_n 3, 1) := by decide +kernel
theorem d_Mod_mended_104 : decode b_Mod_mended 104 = .ok (.ifCond .ne 9, 3) := by decide +kernel
theorem d_Mod_mended_107 : decode b_Mod_mended 107 = .ok (.iload_n 2, 1) := by decide +kernel
theorem d_Mod_mended_108 : decode b_Mod_mended 108 = .ok (.bipush 24, 2) := by decide +kernel
theorem d_Mod_mended_110 : decode b_Mod_mended 110 = .ok (.if_icmp .lt 15, 3) := by decide +kernel
theorem d_Mod_mended_113 : decode b_Mod_mended 113 = .ok (.aload_n 0, 1) := by decide +kernel
theorem d_Mod_mended_114 : decode b_Mod_mended 114 = .ok (.getfield 41, 3) := by decide +kernel
theorem d_Mod_mended_117 : decode b_Mod_mended 117 = .ok (.iconst 3, 1) := by decide +kernel
theorem d_Mod_mended_118 : decode b_Mod_mended 118 = .ok (.dup2, 1) := by decide +kernel
theorem d_Mod_mended_119 : decode b_Mod_mended 119 = .ok (.iaload, 1) := by decide +kernel
theorem d_Mod_mended_120 : decode b_Mod_mended 120 = .ok (.iconst 1, 1) := by decide +kernel
theorem d_Mod_mended_121 : decode b_Mod_mended 121 = .ok (.iadd, 1) := by decide +kernel
theorem d_Mod_mended_122 : decode b_Mod_mended 122 = .ok (.iastore, 1) := by decide +kernel
theorem d_Mod_mended_123 : decode b_Mod_mended 123 = .ok (.iconst (-1), 1) := by decide +kernel
theorem d_Mod_mended_124 : decode b_Mod_mended 124 = .ok (.ireturn, 1) := by decide +kernel
theorem d_Mod_mended_125 : decode b_Mod_mended 125 = .ok (.aload_n 0, 1) := by decide +kernel
theorem d_Mod_mended_126 : decode b_Mod_mended 126 = .ok (.getfield 41, 3) := by decide +kernel
theorem d_Mod_mended_129 : decode b_Mod_mended 129 = .ok (.iconst 2, 1) := by decide +kernel
theorem d_Mod_mended_130 : decode b_Mod_mended 130 = .ok (.dup2, 1) := by decide +kernel
theorem d_Mod_mended_131 : decode b_Mod_mended 131 = .ok (.iaload, 1) := by decide +kernel
theorem d_Mod_mended_132 : decode b_Mod_mended 132 = .ok (.iconst 1, 1) := by decide +kernel
theorem d_Mod_mended_133 : decode b_Mod_mended 133 = .ok (.iadd, 1) := by decide +kernel
theorem d_Mod_mended_134 : decode b_Mod_mended 134 = .ok (.iastore, 1) := by decide +kernel
theorem d_Mod_mended_135 : decode b_Mod_mended 135 = .ok (.iload_n 1, 1) := by decide +kernel
theorem d_Mod_mended_136 : decode b_Mod_mended 136 = .ok (.iconst 1, 1) := by decide +kernel
theorem d_Mod_mended_137 : decode b_Mod_mended 137 = .ok (.iload_n 2, 1) := by decide +kernel
theorem d_Mod_mended_138 : decode b_Mod_mended 138 = .ok (.ifCond .ne 8, 3) := by decide +kernel
theorem d_Mod_mended_141 : decode b_Mod_mended 141 = .ok (.bipush 24, 2) := by decide +kernel
theorem d_Mod_mended_143 : decode b_Mod_mended 143 = .ok (.goto 4, 3) := by decide +kernel
theorem d_Mod_mended_146 : decode b_Mod_mended 146 = .ok (.iload_n 2, 1) := by decide +kernel
theorem d_Mod_mended_147 : decode b_Mod_mended 147 = .ok (.iconst 1, 1) := by decide +kernel
theorem d_Mod_mended_148 : decode b_Mod_mended 148 = .ok (.isub, 1) := by decide +kernel
theorem d_Mod_mended_149 : decode b_Mod_mended 149 = .ok (.ishl, 1) := by decide +kernel
theorem d_Mod_mended_150 : decode b_Mod_mended 150 = .ok (.ixor, 1) := by decide +kernel
theorem d_Mod_mended_151 : decode b_Mod_mended 151 = .ok (.ireturn, 1) := by decide +kernel
theorem d_Mod_told_0 : decode b_Mod_told 0 = .ok (.iconst 0, 1) := by decide +kernel
theorem d_Mod_told_1 : decode b_Mod_told 1 = .ok (.istore_n 3, 1) := by decide +kernel
theorem d_Mod_told_2 : decode b_Mod_told 2 = .ok (.iconst 0, 1) := by decide +kernel
theorem d_Mod_told_3 : decode b_Mod_told 3 = .ok (.istore 4, 2) := by decide +kernel
theorem d_Mod_told_5 : decode b_Mod_told 5 = .ok (.iconst 1, 1) := by decide +kernel
theorem d_Mod_told_6 : decode b_Mod_told 6 = .ok (.istore 5, 2) := by decide +kernel
theorem d_Mod_told_8 : decode b_Mod_told 8 = .ok (.iload 5, 2) := by decide +kernel
theorem d_Mod_told_10 : decode b_Mod_told 10 = .ok (.bipush 24, 2) := by decide +kernel
theorem d_Mod_told_12 : decode b_Mod_told 12 = .ok (.if_icmp .ge 77, 3) := by decide +kernel
theorem d_Mod_told_15 : decode b_Mod_told 15 = .ok (.iload 5, 2) := by decide +kernel
theorem d_Mod_told_17 : decode b_Mod_told 17 = .ok (.iload 5, 2) := by decide +kernel
theorem d_Mod_told_19 : decode b_Mod_told 19 = .ok (.iconst 1, 1) := by decide +kernel
theorem d_Mod_told_20 : decode b_Mod_told 20 = .ok (.isub, 1) := by decide +kernel
theorem d_Mod_told_21 : decode b_Mod_told 21 = .ok (.iand, 1) := by decide +kernel
theorem d_Mod_told_22 : decode b_Mod_told 22 = .ok (.ifCond .eq 7, 3) := by decide +kernel
theorem d_Mod_told_25 : decode b_Mod_told 25 = .ok (.iconst 1, 1) := by decide +kernel
theorem d_Mod_told_26 : decode b_Mod_told 26 = .ok (.goto 4, 3) := by decide +kernel
theorem d_Mod_told_29 : decode b_Mod_told 29 = .ok (.iconst 0, 1) := by decide +kernel
theorem d_Mod_told_30 : decode b_Mod_told 30 = .ok (.istore 6, 2) := by decide +kernel
theorem d_Mod_told_32 : decode b_Mod_told 32 = .ok (.iload 6, 2) := by decide +kernel
theorem d_Mod_told_34 : decode b_Mod_told 34 = .ok (.ifCond .eq 33, 3) := by decide +kernel
theorem d_Mod_told_37 : decode b_Mod_told 37 = .ok (.iload 4, 2) := by decide +kernel
theorem d_Mod_told_39 : decode b_Mod_told 39 = .ok (.iload_n 1, 1) := by decide +kernel
theorem d_Mod_told_40 : decode b_Mod_told 40 = .ok (.if_icmp .lt 27, 3) := by decide +kernel
theorem d_Mod_told_43 : decode b_Mod_told 43 = .ok (.iload 4, 2) := by decide +kernel
theorem d_Mod_told_45 : decode b_Mod_told 45 = .ok (.iload_n 1, 1) := by decide +kernel
theorem d_Mod_told_46 : decode b_Mod_told 46 = .ok (.iload_n 2, 1) := by decide +kernel
theorem d_Mod_told_47 : decode b_Mod_told 47 = .ok (.iadd, 1) := by decide +kernel
theorem d_Mod_told_48 : decode b_Mod_told 48 = .ok (.if_icmp .ge 19, 3) := by decide +kernel
theorem d_Mod_told_51 : decode b_Mod_told 51 = .ok (.iload_n 3, 1) := by decide +kernel
theorem d_Mod_told_52 : decode b_Mod_told 52 = .ok (.iload_n 0, 1) := by decide +kernel
theorem d_Mod_told_53 : decode b_Mod_told 53 = .ok (.iload 5, 2) := by decide +kernel
theorem d_Mod_told_55 : decode b_Mod_told 55 = .ok (.iconst 1, 1) := by decide +kernel
theorem d_Mod_told_56 : decode b_Mod_told 56 = .ok (.isub, 1) := by decide +kernel
theorem d_Mod_told_57 : decode b_Mod_told 57 = .ok (.ishr, 1) := by decide +kernel
theorem d_Mod_told_58 : decode b_Mod_told 58 = .ok (.iconst 1, 1) := by decide +kernel
theorem d_Mod_told_59 : decode b_Mod_told 59 = .ok (.iand, 1) := by decide +kernel
theorem d_Mod_told_60 : decode b_Mod_told 60 = .ok (.iload 4, 2) := by decide +kernel
theorem d_Mod_told_62 : decode b_Mod_told 62 = .ok (.iload_n 1, 1) := by decide +kernel
theorem d_Mod_told_63 : decode b_Mod_told 63 = .ok (.isub, 1) := by decide +kernel
theorem d_Mod_told_64 : decode b_Mod_told 64 = .ok (.ishl, 1) := by decide +kernel
theorem d_Mod_told_65 : decode b_Mod_told 65 = .ok (.iadd, 1) := by decide +kernel
theorem d_Mod_told_66 : decode b_Mod_told 66 = .ok (.istore_n 3, 1) := by decide +kernel
theorem d_Mod_told_67 : decode b_Mod_told 67 = .ok (.iload 6, 2) := by decide +kernel
theorem d_Mod_told_69 : decode b_Mod_told 69 = .ok (.ifCond .eq 10, 3) := by decide +kernel
theorem d_Mod_told_72 : decode b_Mod_told 72 = .ok (.iload 4, 2) := by decide +kernel
theorem d_Mod_told_74 : decode b_Mod_told 74 = .ok (.iconst 1, 1) := by decide +kernel
theorem d_Mod_told_75 : decode b_Mod_told 75 = .ok (.iadd, 1) := by decide +kernel
theorem d_Mod_told_76 : decode b_Mod_told 76 = .ok (.goto 5, 3) := by decide +kernel
theorem d_Mod_told_79 : decode b_Mod_told 79 = .ok (.iload 4, 2) := by decide +kernel
theorem d_Mod_told_81 : decode b_Mod_told 81 = .ok (.istore 4, 2) := by decide +kernel
theorem d_Mod_told_83 : decode b_Mod_told 83 = .ok (.iinc 5 1, 3) := by decide +kernel
theorem d_Mod_told_86 : decode b_Mod_told 86 = .ok (.goto (-78), 3) := by decide +kernel
theorem d_Mod_told_89 : decode b_Mod_told 89 = .ok (.iload_n 3, 1) := by decide +kernel
theorem d_Mod_told_90 : decode b_Mod_told 90 = .ok (.ireturn, 1) := by decide +kernel
theorem d_Mod_takeLinks_0 : decode b_Mod_takeLinks 0 = .ok (.iconst 0, 1) := by decide +kernel
theorem d_Mod_takeLinks_1 : decode b_Mod_takeLinks 1 = .ok (.istore_n 2, 1) := by decide +kernel
theorem d_Mod_takeLinks_2 : decode b_Mod_takeLinks 2 = .ok (.iload_n 2, 1) := by decide +kernel
theorem d_Mod_takeLinks_3 : decode b_Mod_takeLinks 3 = .ok (.iconst 4, 1) := by decide +kernel
theorem d_Mod_takeLinks_4 : decode b_Mod_takeLinks 4 = .ok (.if_icmp .ge 99, 3) := by decide +kernel
theorem d_Mod_takeLinks_7 : decode b_Mod_takeLinks 7 = .ok (.aload_n 0, 1) := by decide +kernel
theorem d_Mod_takeLinks_8 : decode b_Mod_takeLinks 8 = .ok (.aload_n 0, 1) := by decide +kernel
theorem d_Mod_takeLinks_9 : decode b_Mod_takeLinks 9 = .ok (.getfield 38, 3) := by decide +kernel
theorem d_Mod_takeLinks_12 : decode b_Mod_takeLinks 12 = .ok (.iconst 2, 1) := by decide +kernel
theorem d_Mod_takeLinks_13 : decode b_Mod_takeLinks 13 = .ok (.iconst 3, 1) := by decide +kernel
theorem d_Mod_takeLinks_14 : decode b_Mod_takeLinks 14 = .ok (.iload_n 2, 1) := by decide +kernel
theorem d_Mod_takeLinks_15 : decode b_Mod_takeLinks 15 = .ok (.imul, 1) := by decide +kernel
theorem d_Mod_takeLinks_16 : decode b_Mod_takeLinks 16 = .ok (.iadd, 1) := by decide +kernel
theorem d_Mod_takeLinks_17 : decode b_Mod_takeLinks 17 = .ok (.iaload, 1) := by decide +kernel
theorem d_Mod_takeLinks_18 : decode b_Mod_takeLinks 18 = .ok (.invokevirtual 90, 3) := by decide +kernel
theorem d_Mod_takeLinks_21 : decode b_Mod_takeLinks 21 = .ok (.istore_n 3, 1) := by decide +kernel
theorem d_Mod_takeLinks_22 : decode b_Mod_takeLinks 22 = .ok (.aload_n 0, 1) := by decide +kernel
theorem d_Mod_takeLinks_23 : decode b_Mod_takeLinks 23 = .ok (.aload_n 0, 1) := by decide +kernel
theorem d_Mod_takeLinks_24 : decode b_Mod_takeLinks 24 = .ok (.getfield 38, 3) := by decide +kernel
theorem d_Mod_takeLinks_27 : decode b_Mod_takeLinks 27 = .ok (.iconst 3, 1) := by decide +kernel
theorem d_Mod_takeLinks_28 : decode b_Mod_takeLinks 28 = .ok (.iconst 3, 1) := by decide +kernel
theorem d_Mod_takeLinks_29 : decode b_Mod_takeLinks 29 = .ok (.iload_n 2, 1) := by decide +kernel
theorem d_Mod_takeLinks_30 : decode b_Mod_takeLinks 30 = .ok (.imul, 1) := by decide +kernel
theorem d_Mod_takeLinks_31 : decode b_Mod_takeLinks 31 = .ok (.iadd, 1) := by decide +kernel
theorem d_Mod_takeLinks_32 : decode b_Mod_takeLinks 32 = .ok (.iaload, 1) := by decide +kernel
theorem d_Mod_takeLinks_33 : decode b_Mod_takeLinks 33 = .ok (.invokevirtual 90, 3) := by decide +kernel
theorem d_Mod_takeLinks_36 : decode b_Mod_takeLinks 36 = .ok (.istore 4, 2) := by decide +kernel
theorem d_Mod_takeLinks_38 : decode b_Mod_takeLinks 38 = .ok (.aload_n 0, 1) := by decide +kernel
theorem d_Mod_takeLinks_39 : decode b_Mod_takeLinks 39 = .ok (.aload_n 0, 1) := by decide +kernel
theorem d_Mod_takeLinks_40 : decode b_Mod_takeLinks 40 = .ok (.getfield 38, 3) := by decide +kernel
theorem d_Mod_takeLinks_43 : decode b_Mod_takeLinks 43 = .ok (.iconst 4, 1) := by decide +kernel
theorem d_Mod_takeLinks_44 : decode b_Mod_takeLinks 44 = .ok (.iconst 3, 1) := by decide +kernel
theorem d_Mod_takeLinks_45 : decode b_Mod_takeLinks 45 = .ok (.iload_n 2, 1) := by decide +kernel
theorem d_Mod_takeLinks_46 : decode b_Mod_takeLinks 46 = .ok (.imul, 1) := by decide +kernel
theorem d_Mod_takeLinks_47 : decode b_Mod_takeLinks 47 = .ok (.iadd, 1) := by decide +kernel
theorem d_Mod_takeLinks_48 : decode b_Mod_takeLinks 48 = .ok (.iaload, 1) := by decide +kernel
theorem d_Mod_takeLinks_49 : decode b_Mod_takeLinks 49 = .ok (.invokevirtual 90, 3) := by decide +kernel
theorem d_Mod_takeLinks_52 : decode b_Mod_takeLinks 52 = .ok (.istore 5, 2) := by decide +kernel
theorem d_Mod_takeLinks_54 : decode b_Mod_takeLinks 54 = .ok (.iload_n 3, 1) := by decide +kernel
theorem d_Mod_takeLinks_55 : decode b_Mod_takeLinks 55 = .ok (.ifCond .lt 42, 3) := by decide +kernel
theorem d_Mod_takeLinks_58 : decode b_Mod_takeLinks 58 = .ok (.iload 4, 2) := by decide +kernel
theorem d_Mod_takeLinks_60 : decode b_Mod_takeLinks 60 = .ok (.ifCond .lt 37, 3) := by decide +kernel
theorem d_Mod_takeLinks_63 : decode b_Mod_takeLinks 63 = .ok (.iload 5, 2) := by decide +kernel
theorem d_Mod_takeLinks_65 : decode b_Mod_takeLinks 65 = .ok (.ifCond .lt 32, 3) := by decide +kernel
theorem d_Mod_takeLinks_68 : decode b_Mod_takeLinks 68 = .ok (.aload_n 0, 1) := by decide +kernel
theorem d_Mod_takeLinks_69 : decode b_Mod_takeLinks 69 = .ok (.getfield 26, 3) := by decide +kernel
theorem d_Mod_takeLinks_72 : decode b_Mod_takeLinks 72 = .ok (.iconst 4, 1) := by decide +kernel
theorem d_Mod_takeLinks_73 : decode b_Mod_takeLinks 73 = .ok (.iload_n 1, 1) := by decide +kernel
theorem d_Mod_takeLinks_74 : decode b_Mod_takeLinks 74 = .ok (.imul, 1) := by decide +kernel
theorem d_Mod_takeLinks_75 : decode b_Mod_takeLinks 75 = .ok (.iload_n 2, 1) := by decide +kernel
theorem d_Mod_takeLinks_76 : decode b_Mod_takeLinks 76 = .ok (.iadd, 1) := by decide +kernel
theorem d_Mod_takeLinks_77 : decode b_Mod_takeLinks 77 = .ok (.sipush 256, 3) := by decide +kernel
theorem d_Mod_takeLinks_80 : decode b_Mod_takeLinks 80 = .ok (.iload_n 1, 1) := by decide +kernel
theorem d_Mod_takeLinks_81 : decode b_Mod_takeLinks 81 = .ok (.iload 5, 2) := by decide +kernel
theorem d_Mod_takeLinks_83 : decode b_Mod_takeLinks 83 = .ok (.ixor, 1) := by decide +kernel
theorem d_Mod_takeLinks_84 : decode b_Mod_takeLinks 84 = .ok (.bipush 8, 2) := by decide +kernel
theorem d_Mod_takeLinks_86 : decode b_Mod_takeLinks 86 = .ok (.irem, 1) := by decide +kernel
theorem d_Mod_takeLinks_87 : decode b_Mod_takeLinks 87 = .ok (.imul, 1) := by decide +kernel
theorem d_Mod_takeLinks_88 : decode b_Mod_takeLinks 88 = .ok (.bipush 16, 2) := by decide +kernel
theorem d_Mod_takeLinks_90 : decode b_Mod_takeLinks 90 = .ok (.iload 4, 2) := by decide +kernel
theorem d_Mod_takeLinks_92 : decode b_Mod_takeLinks 92 = .ok (.imul, 1) := by decide +kernel
theorem d_Mod_takeLinks_93 : decode b_Mod_takeLinks 93 = .ok (.iadd, 1) := by decide +kernel
theorem d_Mod_takeLinks_94 : decode b_Mod_takeLinks 94 = .ok (.iload_n 3, 1) := by decide +kernel
theorem d_Mod_takeLinks_95 : decode b_Mod_takeLinks 95 = .ok (.iadd, 1) := by decide +kernel
theorem d_Mod_takeLinks_96 : decode b_Mod_takeLinks 96 = .ok (.iastore, 1) := by decide +kernel
theorem d_Mod_takeLinks_97 : decode b_Mod_takeLinks 97 = .ok (.iinc 2 1, 3) := by decide +kernel
theorem d_Mod_takeLinks_100 : decode b_Mod_takeLinks 100 = .ok (.goto (-98), 3) := by decide +kernel
theorem d_Mod_takeLinks_103 : decode b_Mod_takeLinks 103 = .ok (.return_, 1) := by decide +kernel
theorem d_Mod_reset_0 : decode b_Mod_reset 0 = .ok (.aload_n 0, 1) := by decide +kernel
theorem d_Mod_reset_1 : decode b_Mod_reset 1 = .ok (.getfield 127, 3) := by decide +kernel
theorem d_Mod_reset_4 : decode b_Mod_reset 4 = .ok (.istore_n 1, 1) := by decide +kernel
theorem d_Mod_reset_5 : decode b_Mod_reset 5 = .ok (.aload_n 0, 1) := by decide +kernel
theorem d_Mod_reset_6 : decode b_Mod_reset 6 = .ok (.iconst 0, 1) := by decide +kernel
theorem d_Mod_reset_7 : decode b_Mod_reset 7 = .ok (.putfield 127, 3) := by decide +kernel
theorem d_Mod_reset_10 : decode b_Mod_reset 10 = .ok (.iload_n 1, 1) := by decide +kernel
theorem d_Mod_reset_11 : decode b_Mod_reset 11 = .ok (.ireturn, 1) := by decide +kernel
theorem d_Mod_key_0 : decode b_Mod_key 0 = .ok (.iload_n 1, 1) := by decide +kernel
theorem d_Mod_key_1 : decode b_Mod_key 1 = .ok (.ifCond .lt 9, 3) := by decide +kernel
theorem d_Mod_key_4 : decode b_Mod_key 4 = .ok (.iload_n 1, 1) := by decide +kernel
theorem d_Mod_key_5 : decode b_Mod_key 5 = .ok (.bipush 15, 2) := by decide +kernel
theorem d_Mod_key_7 : decode b_Mod_key 7 = .ok (.if_icmp .le 5, 3) := by decide +kernel
theorem d_Mod_key_10 : decode b_Mod_key 10 = .ok (.iconst 0, 1) := by decide +kernel
theorem d_Mod_key_11 : decode b_Mod_key 11 = .ok (.ireturn, 1) := by decide +kernel
theorem d_Mod_key_12 : decode b_Mod_key 12 = .ok (.iload_n 1, 1) := by decide +kernel
theorem d_Mod_key_13 : decode b_Mod_key 13 = .ok (.bipush 10, 2) := by decide +kernel
theorem d_Mod_key_15 : decode b_Mod_key 15 = .ok (.if_icmp .ge 9, 3) := by decide +kernel
theorem d_Mod_key_18 : decode b_Mod_key 18 = .ok (.aload_n 0, 1) := by decide +kernel
theorem d_Mod_key_19 : decode b_Mod_key 19 = .ok (.iload_n 1, 1) := by decide +kernel
theorem d_Mod_key_20 : decode b_Mod_key 20 = .ok (.invokevirtual 150, 3) := by decide +kernel
theorem d_Mod_key_23 : decode b_Mod_key 23 = .ok (.ireturn, 1) := by decide +kernel
theorem d_Mod_key_24 : decode b_Mod_key 24 = .ok (.aload_n 0, 1) := by decide +kernel
theorem d_Mod_key_25 : decode b_Mod_key 25 = .ok (.iconst 0, 1) := by decide +kernel
theorem d_Mod_key_26 : decode b_Mod_key 26 = .ok (.putfield 138, 3) := by decide +kernel
theorem d_Mod_key_29 : decode b_Mod_key 29 = .ok (.aload_n 0, 1) := by decide +kernel
theorem d_Mod_key_30 : decode b_Mod_key 30 = .ok (.invokevirtual 154, 3) := by decide +kernel
theorem d_Mod_key_33 : decode b_Mod_key 33 = .ok (.istore_n 2, 1) := by decide +kernel
theorem d_Mod_key_34 : decode b_Mod_key 34 = .ok (.iload_n 1, 1) := by decide +kernel
theorem d_Mod_key_35 : decode b_Mod_key 35 = .ok (.bipush 15, 2) := by decide +kernel
theorem d_Mod_key_37 : decode b_Mod_key 37 = .ok (.if_icmp .ne 21, 3) := by decide +kernel
theorem d_Mod_key_40 : decode b_Mod_key 40 = .ok (.aload_n 0, 1) := by decide +kernel
theorem d_Mod_key_41 : decode b_Mod_key 41 = .ok (.aload_n 0, 1) := by decide +kernel
theorem d_Mod_key_42 : decode b_Mod_key 42 = .ok (.getfield 135, 3) := by decide +kernel
theorem d_Mod_key_45 : decode b_Mod_key 45 = .ok (.ifCond .ne 7, 3) := by decide +kernel
theorem d_Mod_key_48 : decode b_Mod_key 48 = .ok (.iconst 1, 1) := by decide +kernel
theorem d_Mod_key_49 : decode b_Mod_key 49 = .ok (.goto 4, 3) := by decide +kernel
theorem d_Mod_key_52 : decode b_Mod_key 52 = .ok (.iconst 0, 1) := by decide +kernel
theorem d_Mod_key_53 : decode b_Mod_key 53 = .ok (.putfield 135, 3) := by decide +kernel
theorem d_Mod_key_56 : decode b_Mod_key 56 = .ok (.iconst 1, 1) := by decide +kernel
theorem d_Mod_key_57 : decode b_Mod_key 57 = .ok (.ireturn, 1) := by decide +kernel
theorem d_Mod_key_58 : decode b_Mod_key 58 = .ok (.iload_n 2, 1) := by decide +kernel
theorem d_Mod_key_59 : decode b_Mod_key 59 = .ok (.ifCond .ge 5, 3) := by decide +kernel
theorem d_Mod_key_62 : decode b_Mod_key 62 = .ok (.iconst 0, 1) := by decide +kernel
theorem d_Mod_key_63 : decode b_Mod_key 63 = .ok (.ireturn, 1) := by decide +kernel
theorem d_Mod_key_64 : decode b_Mod_key 64 = .ok (.iload_n 1, 1) := by decide +kernel
theorem d_Mod_key_65 : decode b_Mod_key 65 = .ok (.bipush 14, 2) := by decide +kernel
theorem d_Mod_key_67 : decode b_Mod_key 67 = .ok (.if_icmp .ne 40, 3) := by decide +kernel
theorem d_Mod_key_70 : decode b_Mod_key 70 = .ok (.aload_n 0, 1) := by decide +kernel
theorem d_Mod_key_71 : decode b_Mod_key 71 = .ok (.getfield 7, 3) := by decide +kernel
theorem d_Mod_key_74 : decode b_Mod_key 74 = .ok (.bipush 12, 2) := by decide +kernel
theorem d_Mod_key_76 : decode b_Mod_key 76 = .ok (.baload, 1) := by decide +kernel
theorem d_Mod_key_77 : decode b_Mod_key 77 = .ok (.istore_n 3, 1) := by decide +kernel
theorem d_Mod_key_78 : decode b_Mod_key 78 = .ok (.iload_n 3, 1) := by decide +kernel
theorem d_Mod_key_79 : decode b_Mod_key 79 = .ok (.ifCond .ne 10, 3) := by decide +kernel
theorem d_Mod_key_82 : decode b_Mod_key 82 = .ok (.aload_n 0, 1) := by decide +kernel
theorem d_Mod_key_83 : decode b_Mod_key 83 = .ok (.iload_n 2, 1) := by decide +kernel
theorem d_Mod_key_84 : decode b_Mod_key 84 = .ok (.bipush 12, 2) := by decide +kernel
theorem d_Mod_key_86 : decode b_Mod_key 86 = .ok (.invokevirtual 86, 3) := by decide +kernel
theorem d_Mod_key_89 : decode b_Mod_key 89 = .ok (.aload_n 0, 1) := by decide +kernel
theorem d_Mod_key_90 : decode b_Mod_key 90 = .ok (.getfield 7, 3) := by decide +kernel
theorem d_Mod_key_93 : decode b_Mod_key 93 = .ok (.bipush 12, 2) := by decide +kernel
theorem d_Mod_key_95 : decode b_Mod_key 95 = .ok (.iload_n 3, 1) := by decide +kernel
theorem d_Mod_key_96 : decode b_Mod_key 96 = .ok (.ifCond .ne 7, 3) := by decide +kernel
theorem d_Mod_key_99 : decode b_Mod_key 99 = .ok (.iconst 1, 1) := by decide +kernel
theorem d_Mod_key_100 : decode b_Mod_key 100 = .ok (.goto 4, 3) := by decide +kernel
theorem d_Mod_key_103 : decode b_Mod_key 103 = .ok (.iconst 0, 1) := by decide +kernel
theorem d_Mod_key_104 : decode b_Mod_key 104 = .ok (.bastore, 1) := by decide +kernel
theorem d_Mod_key_105 : decode b_Mod_key 105 = .ok (.iconst 1, 1) := by decide +kernel
theorem d_Mod_key_106 : decode b_Mod_key 106 = .ok (.ireturn, 1) := by decide +kernel
theorem d_Mod_key_107 : decode b_Mod_key 107 = .ok (.aload_n 0, 1) := by decide +kernel
theorem d_Mod_key_108 : decode b_Mod_key 108 = .ok (.getfield 26, 3) := by decide +kernel
theorem d_Mod_key_111 : decode b_Mod_key 111 = .ok (.iconst 4, 1) := by decide +kernel
theorem d_Mod_key_112 : decode b_Mod_key 112 = .ok (.iload_n 2, 1) := by decide +kernel
theorem d_Mod_key_113 : decode b_Mod_key 113 = .ok (.imul, 1) := by decide +kernel
theorem d_Mod_key_114 : decode b_Mod_key 114 = .ok (.iload_n 1, 1) := by decide +kernel
theorem d_Mod_key_115 : decode b_Mod_key 115 = .ok (.iadd, 1) := by decide +kernel
theorem d_Mod_key_116 : decode b_Mod_key 116 = .ok (.bipush 10, 2) := by decide +kernel
theorem d_Mod_key_118 : decode b_Mod_key 118 = .ok (.isub, 1) := by decide +kernel
theorem d_Mod_key_119 : decode b_Mod_key 119 = .ok (.iaload, 1) := by decide +kernel
theorem d_Mod_key_120 : decode b_Mod_key 120 = .ok (.istore_n 3, 1) := by decide +kernel
theorem d_Mod_key_121 : decode b_Mod_key 121 = .ok (.iload_n 3, 1) := by decide +kernel
theorem d_Mod_key_122 : decode b_Mod_key 122 = .ok (.ifCond .lt 8, 3) := by decide +kernel
theorem d_Mod_key_125 : decode b_Mod_key 125 = .ok (.aload_n 0, 1) := by decide +kernel
theorem d_Mod_key_126 : decode b_Mod_key 126 = .ok (.iload_n 3, 1) := by decide +kernel
theorem d_Mod_key_127 : decode b_Mod_key 127 = .ok (.invokevirtual 147, 3) := by decide +kernel
theorem d_Mod_key_130 : decode b_Mod_key 130 = .ok (.iload_n 3, 1) := by decide +kernel
theorem d_Mod_key_131 : decode b_Mod_key 131 = .ok (.ifCond .lt 7, 3) := by decide +kernel
theorem d_Mod_key_134 : decode b_Mod_key 134 = .ok (.iconst 1, 1) := by decide +kernel
theorem d_Mod_key_135 : decode b_Mod_key 135 = .ok (.goto 4, 3) := by decide +kernel
theorem d_Mod_key_138 : decode b_Mod_key 138 = .ok (.iconst 0, 1) := by decide +kernel
theorem d_Mod_key_139 : decode b_Mod_key 139 = .ok (.ireturn, 1) := by decide +kernel
end
section
theorem d_Mod_digit_0 : decode b_Mod_digit 0 = .ok (.aload_n 0, 1) := by decide +kernel
theorem d_Mod_digit_1 : decode b_Mod_digit 1 = .ok (.getfield 138, 3) := by decide +kernel
theorem d_Mod_digit_4 : decode b_Mod_digit 4 = .ok (.ifCond .ne 15, 3) := by decide +kernel
theorem d_Mod_digit_7 : decode b_Mod_digit 7 = .ok (.iload_n 1, 1) := by decide +kernel
theorem d_Mod_digit_8 : decode b_Mod_digit 8 = .ok (.ifCond .eq 9, 3) := by decide +kernel
theorem d_Mod_digit_11 : decode b_Mod_digit 11 = .ok (.iload_n 1, 1) := by decide +kernel
theorem d_Mod_digit_12 : decode b_Mod_digit 12 = .ok (.bipush 9, 2) := by decide +kernel
theorem d_Mod_digit_14 : decode b_Mod_digit 14 = .ok (.if_icmp .ne 5, 3) := by decide +kernel
theorem d_Mod_digit_17 : decode b_Mod_digit 17 = .ok (.iconst 0, 1) := by decide +kernel
theorem d_Mod_digit_18 : decode b_Mod_digit 18 = .ok (.ireturn, 1) := by decide +kernel
theorem d_Mod_digit_19 : decode b_Mod_digit 19 = .ok (.aload_n 0, 1) := by decide +kernel
theorem d_Mod_digit_20 : decode b_Mod_digit 20 = .ok (.getfield 138, 3) := by decide +kernel
theorem d_Mod_digit_23 : decode b_Mod_digit 23 = .ok (.iconst 2, 1) := by decide +kernel
theorem d_Mod_digit_24 : decode b_Mod_digit 24 = .ok (.if_icmp .ne 28, 3) := by decide +kernel
theorem d_Mod_digit_27 : decode b_Mod_digit 27 = .ok (.aload_n 0, 1) := by decide +kernel
theorem d_Mod_digit_28 : decode b_Mod_digit 28 = .ok (.sipush 256, 3) := by decide +kernel
theorem d_Mod_digit_31 : decode b_Mod_digit 31 = .ok (.aload_n 0, 1) := by decide +kernel
theorem d_Mod_digit_32 : decode b_Mod_digit 32 = .ok (.getfield 141, 3) := by decide +kernel
theorem d_Mod_digit_35 : decode b_Mod_digit 35 = .ok (.bipush 8, 2) := by decide +kernel
theorem d_Mod_digit_37 : decode b_Mod_digit 37 = .ok (.irem, 1) := by decide +kernel
theorem d_Mod_digit_38 : decode b_Mod_digit 38 = .ok (.imul, 1) := by decide +kernel
theorem d_Mod_digit_39 : decode b_Mod_digit 39 = .ok (.bipush 16, 2) := by decide +kernel
theorem d_Mod_digit_41 : decode b_Mod_digit 41 = .ok (.aload_n 0, 1) := by decide +kernel
theorem d_Mod_digit_42 : decode b_Mod_digit 42 = .ok (.getfield 144, 3) := by decide +kernel
theorem d_Mod_digit_45 : decode b_Mod_digit 45 = .ok (.imul, 1) := by decide +kernel
theorem d_Mod_digit_46 : decode b_Mod_digit 46 = .ok (.iadd, 1) := by decide +kernel
theorem d_Mod_digit_47 : decode b_Mod_digit 47 = .ok (.iload_n 1, 1) := by decide +kernel
theorem d_Mod_digit_48 : decode b_Mod_digit 48 = .ok (.iadd, 1) := by decide +kernel
theorem d_Mod_digit_49 : decode b_Mod_digit 49 = .ok (.invokevirtual 147, 3) := by decide +kernel
theorem d_Mod_digit_52 : decode b_Mod_digit 52 = .ok (.aload_n 0, 1) := by decide +kernel
theorem d_Mod_digit_53 : decode b_Mod_digit 53 = .ok (.aload_n 0, 1) := by decide +kernel
theorem d_Mod_digit_54 : decode b_Mod_digit 54 = .ok (.getfield 138, 3) := by decide +kernel
theorem d_Mod_digit_57 : decode b_Mod_digit 57 = .ok (.ifCond .ne 7, 3) := by decide +kernel
theorem d_Mod_digit_60 : decode b_Mod_digit 60 = .ok (.iload_n 1, 1) := by decide +kernel
theorem d_Mod_digit_61 : decode b_Mod_digit 61 = .ok (.goto 7, 3) := by decide +kernel
theorem d_Mod_digit_64 : decode b_Mod_digit 64 = .ok (.aload_n 0, 1) := by decide +kernel
theorem d_Mod_digit_65 : decode b_Mod_digit 65 = .ok (.getfield 141, 3) := by decide +kernel
theorem d_Mod_digit_68 : decode b_Mod_digit 68 = .ok (.putfield 141, 3) := by decide +kernel
theorem d_Mod_digit_71 : decode b_Mod_digit 71 = .ok (.aload_n 0, 1) := by decide +kernel
theorem d_Mod_digit_72 : decode b_Mod_digit 72 = .ok (.aload_n 0, 1) := by decide +kernel
theorem d_Mod_digit_73 : decode b_Mod_digit 73 = .ok (.getfield 138, 3) := by decide +kernel
theorem d_Mod_digit_76 : decode b_Mod_digit 76 = .ok (.iconst 1, 1) := by decide +kernel
theorem d_Mod_digit_77 : decode b_Mod_digit 77 = .ok (.if_icmp .ne 7, 3) := by decide +kernel
theorem d_Mod_digit_80 : decode b_Mod_digit 80 = .ok (.iload_n 1, 1) := by decide +kernel
theorem d_Mod_digit_81 : decode b_Mod_digit 81 = .ok (.goto 7, 3) := by decide +kernel
theorem d_Mod_digit_84 : decode b_Mod_digit 84 = .ok (.aload_n 0, 1) := by decide +kernel
theorem d_Mod_digit_85 : decode b_Mod_digit 85 = .ok (.getfield 144, 3) := by decide +kernel
theorem d_Mod_digit_88 : decode b_Mod_digit 88 = .ok (.putfield 144, 3) := by decide +kernel
theorem d_Mod_digit_91 : decode b_Mod_digit 91 = .ok (.aload_n 0, 1) := by decide +kernel
theorem d_Mod_digit_92 : decode b_Mod_digit 92 = .ok (.aload_n 0, 1) := by decide +kernel
theorem d_Mod_digit_93 : decode b_Mod_digit 93 = .ok (.getfield 138, 3) := by decide +kernel
theorem d_Mod_digit_96 : decode b_Mod_digit 96 = .ok (.iconst 1, 1) := by decide +kernel
theorem d_Mod_digit_97 : decode b_Mod_digit 97 = .ok (.iadd, 1) := by decide +kernel
theorem d_Mod_digit_98 : decode b_Mod_digit 98 = .ok (.iconst 3, 1) := by decide +kernel
theorem d_Mod_digit_99 : decode b_Mod_digit 99 = .ok (.irem, 1) := by decide +kernel
theorem d_Mod_digit_100 : decode b_Mod_digit 100 = .ok (.putfield 138, 3) := by decide +kernel
theorem d_Mod_digit_103 : decode b_Mod_digit 103 = .ok (.iconst 1, 1) := by decide +kernel
theorem d_Mod_digit_104 : decode b_Mod_digit 104 = .ok (.ireturn, 1) := by decide +kernel
theorem d_Mod_want_0 : decode b_Mod_want 0 = .ok (.aload_n 0, 1) := by decide +kernel
theorem d_Mod_want_1 : decode b_Mod_want 1 = .ok (.iload_n 1, 1) := by decide +kernel
theorem d_Mod_want_2 : decode b_Mod_want 2 = .ok (.putfield 44, 3) := by decide +kernel
theorem d_Mod_want_5 : decode b_Mod_want 5 = .ok (.aload_n 0, 1) := by decide +kernel
theorem d_Mod_want_6 : decode b_Mod_want 6 = .ok (.getfield 7, 3) := by decide +kernel
theorem d_Mod_want_9 : decode b_Mod_want 9 = .ok (.bipush 12, 2) := by decide +kernel
theorem d_Mod_want_11 : decode b_Mod_want 11 = .ok (.iconst 0, 1) := by decide +kernel
theorem d_Mod_want_12 : decode b_Mod_want 12 = .ok (.bastore, 1) := by decide +kernel
theorem d_Mod_want_13 : decode b_Mod_want 13 = .ok (.aload_n 0, 1) := by decide +kernel
theorem d_Mod_want_14 : decode b_Mod_want 14 = .ok (.iconst 0, 1) := by decide +kernel
theorem d_Mod_want_15 : decode b_Mod_want 15 = .ok (.putfield 135, 3) := by decide +kernel
theorem d_Mod_want_18 : decode b_Mod_want 18 = .ok (.return_, 1) := by decide +kernel
theorem d_Mod_shownAt_0 : decode b_Mod_shownAt 0 = .ok (.aload_n 0, 1) := by decide +kernel
theorem d_Mod_shownAt_1 : decode b_Mod_shownAt 1 = .ok (.getfield 7, 3) := by decide +kernel
theorem d_Mod_shownAt_4 : decode b_Mod_shownAt 4 = .ok (.bipush 12, 2) := by decide +kernel
theorem d_Mod_shownAt_6 : decode b_Mod_shownAt 6 = .ok (.baload, 1) := by decide +kernel
theorem d_Mod_shownAt_7 : decode b_Mod_shownAt 7 = .ok (.ifCond .eq 8, 3) := by decide +kernel
theorem d_Mod_shownAt_10 : decode b_Mod_shownAt 10 = .ok (.bipush 12, 2) := by decide +kernel
theorem d_Mod_shownAt_12 : decode b_Mod_shownAt 12 = .ok (.goto 11, 3) := by decide +kernel
theorem d_Mod_shownAt_15 : decode b_Mod_shownAt 15 = .ok (.aload_n 0, 1) := by decide +kernel
theorem d_Mod_shownAt_16 : decode b_Mod_shownAt 16 = .ok (.aload_n 0, 1) := by decide +kernel
theorem d_Mod_shownAt_17 : decode b_Mod_shownAt 17 = .ok (.getfield 44, 3) := by decide +kernel
theorem d_Mod_shownAt_20 : decode b_Mod_shownAt 20 = .ok (.invokevirtual 80, 3) := by decide +kernel
theorem d_Mod_shownAt_23 : decode b_Mod_shownAt 23 = .ok (.ireturn, 1) := by decide +kernel
theorem d_Mod_tick_0 : decode b_Mod_tick 0 = .ok (.aload_n 0, 1) := by decide +kernel
theorem d_Mod_tick_1 : decode b_Mod_tick 1 = .ok (.aload_n 0, 1) := by decide +kernel
theorem d_Mod_tick_2 : decode b_Mod_tick 2 = .ok (.getfield 48, 3) := by decide +kernel
theorem d_Mod_tick_5 : decode b_Mod_tick 5 = .ok (.ifCond .ne 7, 3) := by decide +kernel
theorem d_Mod_tick_8 : decode b_Mod_tick 8 = .ok (.iconst 1, 1) := by decide +kernel
theorem d_Mod_tick_9 : decode b_Mod_tick 9 = .ok (.goto 4, 3) := by decide +kernel
theorem d_Mod_tick_12 : decode b_Mod_tick 12 = .ok (.iconst 0, 1) := by decide +kernel
theorem d_Mod_tick_13 : decode b_Mod_tick 13 = .ok (.putfield 48, 3) := by decide +kernel
theorem d_Mod_tick_16 : decode b_Mod_tick 16 = .ok (.aload_n 0, 1) := by decide +kernel
theorem d_Mod_tick_17 : decode b_Mod_tick 17 = .ok (.getfield 48, 3) := by decide +kernel
theorem d_Mod_tick_20 : decode b_Mod_tick 20 = .ok (.ireturn, 1) := by decide +kernel
theorem d_Mod_shown_0 : decode b_Mod_shown 0 = .ok (.aload_n 0, 1) := by decide +kernel
theorem d_Mod_shown_1 : decode b_Mod_shown 1 = .ok (.invokevirtual 154, 3) := by decide +kernel
theorem d_Mod_shown_4 : decode b_Mod_shown 4 = .ok (.istore_n 1, 1) := by decide +kernel
theorem d_Mod_shown_5 : decode b_Mod_shown 5 = .ok (.iload_n 1, 1) := by decide +kernel
theorem d_Mod_shown_6 : decode b_Mod_shown 6 = .ok (.ifCond .ge 7, 3) := by decide +kernel
theorem d_Mod_shown_9 : decode b_Mod_shown 9 = .ok (.iconst (-1), 1) := by decide +kernel
theorem d_Mod_shown_10 : decode b_Mod_shown 10 = .ok (.goto 9, 3) := by decide +kernel
theorem d_Mod_shown_13 : decode b_Mod_shown 13 = .ok (.aload_n 0, 1) := by decide +kernel
theorem d_Mod_shown_14 : decode b_Mod_shown 14 = .ok (.getfield 13, 3) := by decide +kernel
theorem d_Mod_shown_17 : decode b_Mod_shown 17 = .ok (.iload_n 1, 1) := by decide +kernel
theorem d_Mod_shown_18 : decode b_Mod_shown 18 = .ok (.iaload, 1) := by decide +kernel
theorem d_Mod_shown_19 : decode b_Mod_shown 19 = .ok (.ireturn, 1) := by decide +kernel
theorem d_Mod_viewer_0 : decode b_Mod_viewer 0 = .ok (.iload_n 1, 1) := by decide +kernel
theorem d_Mod_viewer_1 : decode b_Mod_viewer 1 = .ok (.ifCond .ne 10, 3) := by decide +kernel
theorem d_Mod_viewer_4 : decode b_Mod_viewer 4 = .ok (.aload_n 0, 1) := by decide +kernel
theorem d_Mod_viewer_5 : decode b_Mod_viewer 5 = .ok (.getfield 44, 3) := by decide +kernel
theorem d_Mod_viewer_8 : decode b_Mod_viewer 8 = .ok (.goto 59, 3) := by decide +kernel
theorem d_Mod_viewer_11 : decode b_Mod_viewer 11 = .ok (.iload_n 1, 1) := by decide +kernel
theorem d_Mod_viewer_12 : decode b_Mod_viewer 12 = .ok (.iconst 1, 1) := by decide +kernel
theorem d_Mod_viewer_13 : decode b_Mod_viewer 13 = .ok (.if_icmp .ne 10, 3) := by decide +kernel
theorem d_Mod_viewer_16 : decode b_Mod_viewer 16 = .ok (.aload_n 0, 1) := by decide +kernel
theorem d_Mod_viewer_17 : decode b_Mod_viewer 17 = .ok (.getfield 138, 3) := by decide +kernel
theorem d_Mod_viewer_20 : decode b_Mod_viewer 20 = .ok (.goto 47, 3) := by decide +kernel
theorem d_Mod_viewer_23 : decode b_Mod_viewer 23 = .ok (.iload_n 1, 1) := by decide +kernel
theorem d_Mod_viewer_24 : decode b_Mod_viewer 24 = .ok (.iconst 2, 1) := by decide +kernel
theorem d_Mod_viewer_25 : decode b_Mod_viewer 25 = .ok (.if_icmp .ne 21, 3) := by decide +kernel
theorem d_Mod_viewer_28 : decode b_Mod_viewer 28 = .ok (.aload_n 0, 1) := by decide +kernel
theorem d_Mod_viewer_29 : decode b_Mod_viewer 29 = .ok (.getfield 7, 3) := by decide +kernel
theorem d_Mod_viewer_32 : decode b_Mod_viewer 32 = .ok (.bipush 12, 2) := by decide +kernel
theorem d_Mod_viewer_34 : decode b_Mod_viewer 34 = .ok (.baload, 1) := by decide +kernel
theorem d_Mod_viewer_35 : decode b_Mod_viewer 35 = .ok (.ifCond .eq 7, 3) := by decide +kernel
theorem d_Mod_viewer_38 : decode b_Mod_viewer 38 = .ok (.iconst 1, 1) := by decide +kernel
theorem d_Mod_viewer_39 : decode b_Mod_viewer 39 = .ok (.goto 28, 3) := by decide +kernel
theorem d_Mod_viewer_42 : decode b_Mod_viewer 42 = .ok (.iconst 0, 1) := by decide +kernel
theorem d_Mod_viewer_43 : decode b_Mod_viewer 43 = .ok (.goto 24, 3) := by decide +kernel
theorem d_Mod_viewer_46 : decode b_Mod_viewer 46 = .ok (.iload_n 1, 1) := by decide +kernel
theorem d_Mod_viewer_47 : decode b_Mod_viewer 47 = .ok (.iconst 3, 1) := by decide +kernel
theorem d_Mod_viewer_48 : decode b_Mod_viewer 48 = .ok (.if_icmp .ne 18, 3) := by decide +kernel
theorem d_Mod_viewer_51 : decode b_Mod_viewer 51 = .ok (.aload_n 0, 1) := by decide +kernel
theorem d_Mod_viewer_52 : decode b_Mod_viewer 52 = .ok (.getfield 135, 3) := by decide +kernel
theorem d_Mod_viewer_55 : decode b_Mod_viewer 55 = .ok (.ifCond .eq 7, 3) := by decide +kernel
theorem d_Mod_viewer_58 : decode b_Mod_viewer 58 = .ok (.iconst 1, 1) := by decide +kernel
theorem d_Mod_viewer_59 : decode b_Mod_viewer 59 = .ok (.goto 8, 3) := by decide +kernel
theorem d_Mod_viewer_62 : decode b_Mod_viewer 62 = .ok (.iconst 0, 1) := by decide +kernel
theorem d_Mod_viewer_63 : decode b_Mod_viewer 63 = .ok (.goto 4, 3) := by decide +kernel
theorem d_Mod_viewer_66 : decode b_Mod_viewer 66 = .ok (.iconst (-1), 1) := by decide +kernel
theorem d_Mod_viewer_67 : decode b_Mod_viewer 67 = .ok (.ireturn, 1) := by decide +kernel
theorem d_Mod_kept_0 : decode b_Mod_kept 0 = .ok (.iload_n 1, 1) := by decide +kernel
theorem d_Mod_kept_1 : decode b_Mod_kept 1 = .ok (.ifCond .lt 33, 3) := by decide +kernel
theorem d_Mod_kept_4 : decode b_Mod_kept 4 = .ok (.iload_n 1, 1) := by decide +kernel
theorem d_Mod_kept_5 : decode b_Mod_kept 5 = .ok (.aload_n 0, 1) := by decide +kernel
theorem d_Mod_kept_6 : decode b_Mod_kept 6 = .ok (.getfield 70, 3) := by decide +kernel
theorem d_Mod_kept_9 : decode b_Mod_kept 9 = .ok (.if_icmp .ge 25, 3) := by decide +kernel
theorem d_Mod_kept_12 : decode b_Mod_kept 12 = .ok (.aload_n 0, 1) := by decide +kernel
theorem d_Mod_kept_13 : decode b_Mod_kept 13 = .ok (.getfield 7, 3) := by decide +kernel
theorem d_Mod_kept_16 : decode b_Mod_kept 16 = .ok (.bipush 8, 2) := by decide +kernel
theorem d_Mod_kept_18 : decode b_Mod_kept 18 = .ok (.iload_n 1, 1) := by decide +kernel
theorem d_Mod_kept_19 : decode b_Mod_kept 19 = .ok (.iadd, 1) := by decide +kernel
theorem d_Mod_kept_20 : decode b_Mod_kept 20 = .ok (.baload, 1) := by decide +kernel
theorem d_Mod_kept_21 : decode b_Mod_kept 21 = .ok (.ifCond .eq 13, 3) := by decide +kernel
theorem d_Mod_kept_24 : decode b_Mod_kept 24 = .ok (.iload_n 2, 1) := by decide +kernel
theorem d_Mod_kept_25 : decode b_Mod_kept 25 = .ok (.ifCond .lt 9, 3) := by decide +kernel
theorem d_Mod_kept_28 : decode b_Mod_kept 28 = .ok (.iload_n 2, 1) := by decide +kernel
theorem d_Mod_kept_29 : decode b_Mod_kept 29 = .ok (.bipush 7, 2) := by decide +kernel
theorem d_Mod_kept_31 : decode b_Mod_kept 31 = .ok (.if_icmp .le 5, 3) := by decide +kernel
theorem d_Mod_kept_34 : decode b_Mod_kept 34 = .ok (.iconst (-1), 1) := by decide +kernel
theorem d_Mod_kept_35 : decode b_Mod_kept 35 = .ok (.ireturn, 1) := by decide +kernel
theorem d_Mod_kept_36 : decode b_Mod_kept 36 = .ok (.bipush 8, 2) := by decide +kernel
theorem d_Mod_kept_38 : decode b_Mod_kept 38 = .ok (.iload_n 1, 1) := by decide +kernel
theorem d_Mod_kept_39 : decode b_Mod_kept 39 = .ok (.iadd, 1) := by decide +kernel
theorem d_Mod_kept_40 : decode b_Mod_kept 40 = .ok (.istore_n 3, 1) := by decide +kernel
theorem d_Mod_kept_41 : decode b_Mod_kept 41 = .ok (.iload_n 2, 1) := by decide +kernel
theorem d_Mod_kept_42 : decode b_Mod_kept 42 = .ok (.ifCond .ne 12, 3) := by decide +kernel
theorem d_Mod_kept_45 : decode b_Mod_kept 45 = .ok (.aload_n 0, 1) := by decide +kernel
theorem d_Mod_kept_46 : decode b_Mod_kept 46 = .ok (.getfield 13, 3) := by decide +kernel
theorem d_Mod_kept_49 : decode b_Mod_kept 49 = .ok (.iload_n 3, 1) := by decide +kernel
theorem d_Mod_kept_50 : decode b_Mod_kept 50 = .ok (.iaload, 1) := by decide +kernel
theorem d_Mod_kept_51 : decode b_Mod_kept 51 = .ok (.goto 57, 3) := by decide +kernel
theorem d_Mod_kept_54 : decode b_Mod_kept 54 = .ok (.iload_n 2, 1) := by decide +kernel
theorem d_Mod_kept_55 : decode b_Mod_kept 55 = .ok (.iconst 1, 1) := by decide +kernel
theorem d_Mod_kept_56 : decode b_Mod_kept 56 = .ok (.if_icmp .ne 12, 3) := by decide +kernel
theorem d_Mod_kept_59 : decode b_Mod_kept 59 = .ok (.aload_n 0, 1) := by decide +kernel
theorem d_Mod_kept_60 : decode b_Mod_kept 60 = .ok (.getfield 17, 3) := by decide +kernel
theorem d_Mod_kept_63 : decode b_Mod_kept 63 = .ok (.iload_n 3, 1) := by decide +kernel
theorem d_Mod_kept_64 : decode b_Mod_kept 64 = .ok (.iaload, 1) := by decide +kernel
theorem d_Mod_kept_65 : decode b_Mod_kept 65 = .ok (.goto 43, 3) := by decide +kernel
theorem d_Mod_kept_68 : decode b_Mod_kept 68 = .ok (.iload_n 2, 1) := by decide +kernel
theorem d_Mod_kept_69 : decode b_Mod_kept 69 = .ok (.iconst 2, 1) := by decide +kernel
theorem d_Mod_kept_70 : decode b_Mod_kept 70 = .ok (.if_icmp .ne 12, 3) := by decide +kernel
theorem d_Mod_kept_73 : decode b_Mod_kept 73 = .ok (.aload_n 0, 1) := by decide +kernel
theorem d_Mod_kept_74 : decode b_Mod_kept 74 = .ok (.getfield 20, 3) := by decide +kernel
theorem d_Mod_kept_77 : decode b_Mod_kept 77 = .ok (.iload_n 3, 1) := by decide +kernel
theorem d_Mod_kept_78 : decode b_Mod_kept 78 = .ok (.iaload, 1) := by decide +kernel
theorem d_Mod_kept_79 : decode b_Mod_kept 79 = .ok (.goto 29, 3) := by decide +kernel
theorem d_Mod_kept_82 : decode b_Mod_kept 82 = .ok (.iload_n 2, 1) := by decide +kernel
theorem d_Mod_kept_83 : decode b_Mod_kept 83 = .ok (.iconst 3, 1) := by decide +kernel
theorem d_Mod_kept_84 : decode b_Mod_kept 84 = .ok (.if_icmp .ne 12, 3) := by decide +kernel
theorem d_Mod_kept_87 : decode b_Mod_kept 87 = .ok (.aload_n 0, 1) := by decide +kernel
theorem d_Mod_kept_88 : decode b_Mod_kept 88 = .ok (.getfield 23, 3) := by decide +kernel
theorem d_Mod_kept_91 : decode b_Mod_kept 91 = .ok (.iload_n 3, 1) := by decide +kernel
theorem d_Mod_kept_92 : decode b_Mod_kept 92 = .ok (.iaload, 1) := by decide +kernel
theorem d_Mod_kept_93 : decode b_Mod_kept 93 = .ok (.goto 15, 3) := by decide +kernel
theorem d_Mod_kept_96 : decode b_Mod_kept 96 = .ok (.aload_n 0, 1) := by decide +kernel
theorem d_Mod_kept_97 : decode b_Mod_kept 97 = .ok (.getfield 26, 3) := by decide +kernel
theorem d_Mod_kept_100 : decode b_Mod_kept 100 = .ok (.iconst 4, 1) := by decide +kernel
theorem d_Mod_kept_101 : decode b_Mod_kept 101 = .ok (.iload_n 3, 1) := by decide +kernel
theorem d_Mod_kept_102 : decode b_Mod_kept 102 = .ok (.imul, 1) := by decide +kernel
theorem d_Mod_kept_103 : decode b_Mod_kept 103 = .ok (.iload_n 2, 1) := by decide +kernel
theorem d_Mod_kept_104 : decode b_Mod_kept 104 = .ok (.iadd, 1) := by decide +kernel
theorem d_Mod_kept_105 : decode b_Mod_kept 105 = .ok (.iconst 4, 1) := by decide +kernel
theorem d_Mod_kept_106 : decode b_Mod_kept 106 = .ok (.isub, 1) := by decide +kernel
theorem d_Mod_kept_107 : decode b_Mod_kept 107 = .ok (.iaload, 1) := by decide +kernel
theorem d_Mod_kept_108 : decode b_Mod_kept 108 = .ok (.ireturn, 1) := by decide +kernel
theorem d_Mod_count_0 : decode b_Mod_count 0 = .ok (.iload_n 1, 1) := by decide +kernel
theorem d_Mod_count_1 : decode b_Mod_count 1 = .ok (.ifCond .lt 8, 3) := by decide +kernel
theorem d_Mod_count_4 : decode b_Mod_count 4 = .ok (.iload_n 1, 1) := by decide +kernel
theorem d_Mod_count_5 : decode b_Mod_count 5 = .ok (.iconst 5, 1) := by decide +kernel
theorem d_Mod_count_6 : decode b_Mod_count 6 = .ok (.if_icmp .le 7, 3) := by decide +kernel
theorem d_Mod_count_9 : decode b_Mod_count 9 = .ok (.iconst (-1), 1) := by decide +kernel
theorem d_Mod_count_10 : decode b_Mod_count 10 = .ok (.goto 9, 3) := by decide +kernel
theorem d_Mod_count_13 : decode b_Mod_count 13 = .ok (.aload_n 0, 1) := by decide +kernel
theorem d_Mod_count_14 : decode b_Mod_count 14 = .ok (.getfield 41, 3) := by decide +kernel
theorem d_Mod_count_17 : decode b_Mod_count 17 = .ok (.iload_n 1, 1) := by decide +kernel
theorem d_Mod_count_18 : decode b_Mod_count 18 = .ok (.iaload, 1) := by decide +kernel
theorem d_Mod_count_19 : decode b_Mod_count 19 = .ok (.ireturn, 1) := by decide +kernel
theorem d_Mod_look_0 : decode b_Mod_look 0 = .ok (.iload_n 1, 1) := by decide +kernel
theorem d_Mod_look_1 : decode b_Mod_look 1 = .ok (.iload_n 2, 1) := by decide +kernel
theorem d_Mod_look_2 : decode b_Mod_look 2 = .ok (.invokestatic 233, 3) := by decide +kernel
theorem d_Mod_look_5 : decode b_Mod_look 5 = .ok (.ifCond .eq 12, 3) := by decide +kernel
theorem d_Mod_look_8 : decode b_Mod_look 8 = .ok (.iload_n 3, 1) := by decide +kernel
theorem d_Mod_look_9 : decode b_Mod_look 9 = .ok (.ifCond .lt 8, 3) := by decide +kernel
theorem d_Mod_look_12 : decode b_Mod_look 12 = .ok (.iload_n 3, 1) := by decide +kernel
theorem d_Mod_look_13 : decode b_Mod_look 13 = .ok (.iconst 3, 1) := by decide +kernel
theorem d_Mod_look_14 : decode b_Mod_look 14 = .ok (.if_icmp .le 5, 3) := by decide +kernel
theorem d_Mod_look_17 : decode b_Mod_look 17 = .ok (.iconst (-1), 1) := by decide +kernel
theorem d_Mod_look_18 : decode b_Mod_look 18 = .ok (.ireturn, 1) := by decide +kernel
theorem d_Mod_look_19 : decode b_Mod_look 19 = .ok (.aload_n 0, 1) := by decide +kernel
theorem d_Mod_look_20 : decode b_Mod_look 20 = .ok (.iload_n 1, 1) := by decide +kernel
theorem d_Mod_look_21 : decode b_Mod_look 21 = .ok (.invokevirtual 237, 3) := by decide +kernel
theorem d_Mod_look_24 : decode b_Mod_look 24 = .ok (.iload_n 3, 1) := by decide +kernel
theorem d_Mod_look_25 : decode b_Mod_look 25 = .ok (.ifCond .ne 12, 3) := by decide +kernel
theorem d_Mod_look_28 : decode b_Mod_look 28 = .ok (.aload_n 0, 1) := by decide +kernel
theorem d_Mod_look_29 : decode b_Mod_look 29 = .ok (.getfield 58, 3) := by decide +kernel
theorem d_Mod_look_32 : decode b_Mod_look 32 = .ok (.iload_n 2, 1) := by decide +kernel
theorem d_Mod_look_33 : decode b_Mod_look 33 = .ok (.iaload, 1) := by decide +kernel
theorem d_Mod_look_34 : decode b_Mod_look 34 = .ok (.goto 37, 3) := by decide +kernel
theorem d_Mod_look_37 : decode b_Mod_look 37 = .ok (.iload_n 3, 1) := by decide +kernel
theorem d_Mod_look_38 : decode b_Mod_look 38 = .ok (.iconst 1, 1) := by decide +kernel
theorem d_Mod_look_39 : decode b_Mod_look 39 = .ok (.if_icmp .ne 12, 3) := by decide +kernel
theorem d_Mod_look_42 : decode b_Mod_look 42 = .ok (.aload_n 0, 1) := by decide +kernel
theorem d_Mod_look_43 : decode b_Mod_look 43 = .ok (.getfield 61, 3) := by decide +kernel
theorem d_Mod_look_46 : decode b_Mod_look 46 = .ok (.iload_n 2, 1) := by decide +kernel
theorem d_Mod_look_47 : decode b_Mod_look 47 = .ok (.iaload, 1) := by decide +kernel
theorem d_Mod_look_48 : decode b_Mod_look 48 = .ok (.goto 23, 3) := by decide +kernel
theorem d_Mod_look_51 : decode b_Mod_look 51 = .ok (.iload_n 3, 1) := by decide +kernel
theorem d_Mod_look_52 : decode b_Mod_look 52 = .ok (.iconst 2, 1) := by decide +kernel
theorem d_Mod_look_53 : decode b_Mod_look 53 = .ok (.if_icmp .ne 12, 3) := by decide +kernel
theorem d_Mod_look_56 : decode b_Mod_look 56 = .ok (.aload_n 0, 1) := by decide +kernel
theorem d_Mod_look_57 : decode b_Mod_look 57 = .ok (.getfield 64, 3) := by decide +kernel
theorem d_Mod_look_60 : decode b_Mod_look 60 = .ok (.iload_n 2, 1) := by decide +kernel
theorem d_Mod_look_61 : decode b_Mod_look 61 = .ok (.iaload, 1) := by decide +kernel
theorem d_Mod_look_62 : decode b_Mod_look 62 = .ok (.goto 9, 3) := by decide +kernel
theorem d_Mod_look_65 : decode b_Mod_look 65 = .ok (.aload_n 0, 1) := by decide +kernel
theorem d_Mod_look_66 : decode b_Mod_look 66 = .ok (.getfield 67, 3) := by decide +kernel
theorem d_Mod_look_69 : decode b_Mod_look 69 = .ok (.iload_n 2, 1) := by decide +kernel
theorem d_Mod_look_70 : decode b_Mod_look 70 = .ok (.iaload, 1) := by decide +kernel
theorem d_Mod_look_71 : decode b_Mod_look 71 = .ok (.ireturn, 1) := by decide +kernel
theorem d_Mod_isCell_0 : decode b_Mod_isCell 0 = .ok (.iload_n 0, 1) := by decide +kernel
theorem d_Mod_isCell_1 : decode b_Mod_isCell 1 = .ok (.ifCond .lt 23, 3) := by decide +kernel
theorem d_Mod_isCell_4 : decode b_Mod_isCell 4 = .ok (.iload_n 0, 1) := by decide +kernel
theorem d_Mod_isCell_5 : decode b_Mod_isCell 5 = .ok (.bipush 8, 2) := by decide +kernel
theorem d_Mod_isCell_7 : decode b_Mod_isCell 7 = .ok (.if_icmp .ge 17, 3) := by decide +kernel
theorem d_Mod_isCell_10 : decode b_Mod_isCell 10 = .ok (.iload_n 1, 1) := by decide +kernel
theorem d_Mod_isCell_11 : decode b_Mod_isCell 11 = .ok (.ifCond .lt 13, 3) := by decide +kernel
theorem d_Mod_isCell_14 : decode b_Mod_isCell 14 = .ok (.iload_n 1, 1) := by decide +kernel
theorem d_Mod_isCell_15 : decode b_Mod_isCell 15 = .ok (.bipush 20, 2) := by decide +kernel
theorem d_Mod_isCell_17 : decode b_Mod_isCell 17 = .ok (.if_icmp .ge 7, 3) := by decide +kernel
theorem d_Mod_isCell_20 : decode b_Mod_isCell 20 = .ok (.iconst 1, 1) := by decide +kernel
theorem d_Mod_isCell_21 : decode b_Mod_isCell 21 = .ok (.goto 4, 3) := by decide +kernel
theorem d_Mod_isCell_24 : decode b_Mod_isCell 24 = .ok (.iconst 0, 1) := by decide +kernel
theorem d_Mod_isCell_25 : decode b_Mod_isCell 25 = .ok (.ireturn, 1) := by decide +kernel
theorem d_Mod_goTo_0 : decode b_Mod_goTo 0 = .ok (.iconst 0, 1) := by decide +kernel
theorem d_Mod_goTo_1 : decode b_Mod_goTo 1 = .ok (.istore_n 2, 1) := by decide +kernel
theorem d_Mod_goTo_2 : decode b_Mod_goTo 2 = .ok (.iconst 1, 1) := by decide +kernel
theorem d_Mod_goTo_3 : decode b_Mod_goTo 3 = .ok (.istore_n 3, 1) := by decide +kernel
theorem d_Mod_goTo_4 : decode b_Mod_goTo 4 = .ok (.iload_n 3, 1) := by decide +kernel
theorem d_Mod_goTo_5 : decode b_Mod_goTo 5 = .ok (.iload_n 1, 1) := by decide +kernel
theorem d_Mod_goTo_6 : decode b_Mod_goTo 6 = .ok (.if_icmp .ge 27, 3) := by decide +kernel
theorem d_Mod_goTo_9 : decode b_Mod_goTo 9 = .ok (.iload_n 2, 1) := by decide +kernel
theorem d_Mod_goTo_10 : decode b_Mod_goTo 10 = .ok (.ifCond .ne 15, 3) := by decide +kernel
theorem d_Mod_goTo_13 : decode b_Mod_goTo 13 = .ok (.aload_n 0, 1) := by decide +kernel
theorem d_Mod_goTo_14 : decode b_Mod_goTo 14 = .ok (.iload_n 3, 1) := by decide +kernel
theorem d_Mod_goTo_15 : decode b_Mod_goTo 15 = .ok (.invokevirtual 230, 3) := by decide +kernel
theorem d_Mod_goTo_18 : decode b_Mod_goTo 18 = .ok (.ifCond .eq 7, 3) := by decide +kernel
theorem d_Mod_goTo_21 : decode b_Mod_goTo 21 = .ok (.iconst 1, 1) := by decide +kernel
theorem d_Mod_goTo_22 : decode b_Mod_goTo 22 = .ok (.goto 4, 3) := by decide +kernel
theorem d_Mod_goTo_25 : decode b_Mod_goTo 25 = .ok (.iconst 0, 1) := by decide +kernel
theorem d_Mod_goTo_26 : decode b_Mod_goTo 26 = .ok (.istore_n 2, 1) := by decide +kernel
theorem d_Mod_goTo_27 : decode b_Mod_goTo 27 = .ok (.iinc 3 1, 3) := by decide +kernel
theorem d_Mod_goTo_30 : decode b_Mod_goTo 30 = .ok (.goto (-26), 3) := by decide +kernel
theorem d_Mod_goTo_33 : decode b_Mod_goTo 33 = .ok (.iload_n 2, 1) := by decide +kernel
theorem d_Mod_goTo_34 : decode b_Mod_goTo 34 = .ok (.ifCond .ne 10, 3) := by decide +kernel
theorem d_Mod_goTo_37 : decode b_Mod_goTo 37 = .ok (.aload_n 0, 1) := by decide +kernel
theorem d_Mod_goTo_38 : decode b_Mod_goTo 38 = .ok (.iload_n 1, 1) := by decide +kernel
theorem d_Mod_goTo_39 : decode b_Mod_goTo 39 = .ok (.invokevirtual 230, 3) := by decide +kernel
theorem d_Mod_goTo_42 : decode b_Mod_goTo 42 = .ok (.istore_n 3, 1) := by decide +kernel
theorem d_Mod_goTo_43 : decode b_Mod_goTo 43 = .ok (.return_, 1) := by decide +kernel
theorem d_Mod_goTo_44 : decode b_Mod_goTo 44 = .ok (.aload_n 0, 1) := by decide +kernel
theorem d_Mod_goTo_45 : decode b_Mod_goTo 45 = .ok (.iload_n 1, 1) := by decide +kernel
theorem d_Mod_goTo_46 : decode b_Mod_goTo 46 = .ok (.iconst 1, 1) := by decide +kernel
theorem d_Mod_goTo_47 : decode b_Mod_goTo 47 = .ok (.isub, 1) := by decide +kernel
theorem d_Mod_goTo_48 : decode b_Mod_goTo 48 = .ok (.invokevirtual 230, 3) := by decide +kernel
theorem d_Mod_goTo_51 : decode b_Mod_goTo 51 = .ok (.istore_n 3, 1) := by decide +kernel
theorem d_Mod_goTo_52 : decode b_Mod_goTo 52 = .ok (.iconst 0, 1) := by decide +kernel
theorem d_Mod_goTo_53 : decode b_Mod_goTo 53 = .ok (.istore 4, 2) := by decide +kernel
theorem d_Mod_goTo_55 : decode b_Mod_goTo 55 = .ok (.iload 4, 2) := by decide +kernel
theorem d_Mod_goTo_57 : decode b_Mod_goTo 57 = .ok (.bipush 20, 2) := by decide +kernel
theorem d_Mod_goTo_59 : decode b_Mod_goTo 59 = .ok (.if_icmp .ge 86, 3) := by decide +kernel
theorem d_Mod_goTo_62 : decode b_Mod_goTo 62 = .ok (.aload_n 0, 1) := by decide +kernel
theorem d_Mod_goTo_63 : decode b_Mod_goTo 63 = .ok (.getfield 67, 3) := by decide +kernel
theorem d_Mod_goTo_66 : decode b_Mod_goTo 66 = .ok (.iload 4, 2) := by decide +kernel
theorem d_Mod_goTo_68 : decode b_Mod_goTo 68 = .ok (.iaload, 1) := by decide +kernel
theorem d_Mod_goTo_69 : decode b_Mod_goTo 69 = .ok (.iconst 4, 1) := by decide +kernel
theorem d_Mod_goTo_70 : decode b_Mod_goTo 70 = .ok (.iand, 1) := by decide +kernel
theorem d_Mod_goTo_71 : decode b_Mod_goTo 71 = .ok (.ifCond .eq 7, 3) := by decide +kernel
theorem d_Mod_goTo_74 : decode b_Mod_goTo 74 = .ok (.iconst 1, 1) := by decide +kernel
theorem d_Mod_goTo_75 : decode b_Mod_goTo 75 = .ok (.goto 4, 3) := by decide +kernel
theorem d_Mod_goTo_78 : decode b_Mod_goTo 78 = .ok (.iconst 0, 1) := by decide +kernel
theorem d_Mod_goTo_79 : decode b_Mod_goTo 79 = .ok (.istore 5, 2) := by decide +kernel
theorem d_Mod_goTo_81 : decode b_Mod_goTo 81 = .ok (.aload_n 0, 1) := by decide +kernel
theorem d_Mod_goTo_82 : decode b_Mod_goTo 82 = .ok (.getfield 58, 3) := by decide +kernel
theorem d_Mod_goTo_85 : decode b_Mod_goTo 85 = .ok (.iload 4, 2) := by decide +kernel
theorem d_Mod_goTo_87 : decode b_Mod_goTo 87 = .ok (.iload 5, 2) := by decide +kernel
theorem d_Mod_goTo_89 : decode b_Mod_goTo 89 = .ok (.ifCond .eq 13, 3) := by decide +kernel
theorem d_Mod_goTo_92 : decode b_Mod_goTo 92 = .ok (.aload_n 0, 1) := by decide +kernel
theorem d_Mod_goTo_93 : decode b_Mod_goTo 93 = .ok (.getfield 58, 3) := by decide +kernel
theorem d_Mod_goTo_96 : decode b_Mod_goTo 96 = .ok (.iload 4, 2) := by decide +kernel
theorem d_Mod_goTo_98 : decode b_Mod_goTo 98 = .ok (.iaload, 1) := by decide +kernel
theorem d_Mod_goTo_99 : decode b_Mod_goTo 99 = .ok (.goto 5, 3) := by decide +kernel
theorem d_Mod_goTo_102 : decode b_Mod_goTo 102 = .ok (.bipush 32, 2) := by decide +kernel
theorem d_Mod_goTo_104 : decode b_Mod_goTo 104 = .ok (.iastore, 1) := by decide +kernel
theorem d_Mod_goTo_105 : decode b_Mod_goTo 105 = .ok (.aload_n 0, 1) := by decide +kernel
theorem d_Mod_goTo_106 : decode b_Mod_goTo 106 = .ok (.getfield 67, 3) := by decide +kernel
theorem d_Mod_goTo_109 : decode b_Mod_goTo 109 = .ok (.iload 4, 2) := by decide +kernel
theorem d_Mod_goTo_111 : decode b_Mod_goTo 111 = .ok (.iload 5, 2) := by decide +kernel
theorem d_Mod_goTo_113 : decode b_Mod_goTo 113 = .ok (.ifCond .eq 15, 3) := by decide +kernel
theorem d_Mod_goTo_116 : decode b_Mod_goTo 116 = .ok (.aload_n 0, 1) := by decide +kernel
theorem d_Mod_goTo_117 : decode b_Mod_goTo 117 = .ok (.getfield 67, 3) := by decide +kernel
theorem d_Mod_goTo_120 : decode b_Mod_goTo 120 = .ok (.iload 4, 2) := by decide +kernel
theorem d_Mod_goTo_122 : decode b_Mod_goTo 122 = .ok (.iaload, 1) := by decide +kernel
theorem d_Mod_goTo_123 : decode b_Mod_goTo 123 = .ok (.iconst 4, 1) := by decide +kernel
theorem d_Mod_goTo_124 : decode b_Mod_goTo 124 = .ok (.iadd, 1) := by decide +kernel
theorem d_Mod_goTo_125 : decode b_Mod_goTo 125 = .ok (.goto 13, 3) := by decide +kernel
theorem d_Mod_goTo_128 : decode b_Mod_goTo 128 = .ok (.aload_n 0, 1) := by decide +kernel
theorem d_Mod_goTo_129 : decode b_Mod_goTo 129 = .ok (.getfield 67, 3) := by decide +kernel
theorem d_Mod_goTo_132 : decode b_Mod_goTo 132 = .ok (.iload 4, 2) := by decide +kernel
theorem d_Mod_goTo_134 : decode b_Mod_goTo 134 = .ok (.iaload, 1) := by decide +kernel
theorem d_Mod_goTo_135 : decode b_Mod_goTo 135 = .ok (.bipush 64, 2) := by decide +kernel
theorem d_Mod_goTo_137 : decode b_Mod_goTo 137 = .ok (.iand, 1) := by decide +kernel
theorem d_Mod_goTo_138 : decode b_Mod_goTo 138 = .ok (.iastore, 1) := by decide +kernel
theorem d_Mod_goTo_139 : decode b_Mod_goTo 139 = .ok (.iinc 4 1, 3) := by decide +kernel
theorem d_Mod_goTo_142 : decode b_Mod_goTo 142 = .ok (.goto (-87), 3) := by decide +kernel
theorem d_Mod_goTo_145 : decode b_Mod_goTo 145 = .ok (.return_, 1) := by decide +kernel
theorem d_Mod_go_0 : decode b_Mod_go 0 = .ok (.aload_n 0, 1) := by decide +kernel
theorem d_Mod_go_1 : decode b_Mod_go 1 = .ok (.iload_n 1, 1) := by decide +kernel
theorem d_Mod_go_2 : decode b_Mod_go 2 = .ok (.invokevirtual 214, 3) := by decide +kernel
theorem d_Mod_go_5 : decode b_Mod_go 5 = .ok (.aload_n 0, 1) := by decide +kernel
theorem d_Mod_go_6 : decode b_Mod_go 6 = .ok (.invokevirtual 217, 3) := by decide +kernel
theorem d_Mod_go_9 : decode b_Mod_go 9 = .ok (.aload_n 0, 1) := by decide +kernel
theorem d_Mod_go_10 : decode b_Mod_go 10 = .ok (.invokevirtual 154, 3) := by decide +kernel
theorem d_Mod_go_13 : decode b_Mod_go 13 = .ok (.istore_n 2, 1) := by decide +kernel
theorem d_Mod_go_14 : decode b_Mod_go 14 = .ok (.iload_n 2, 1) := by decide +kernel
theorem d_Mod_go_15 : decode b_Mod_go 15 = .ok (.ifCond .ge 7, 3) := by decide +kernel
theorem d_Mod_go_18 : decode b_Mod_go 18 = .ok (.iconst 0, 1) := by decide +kernel
theorem d_Mod_go_19 : decode b_Mod_go 19 = .ok (.goto 9, 3) := by decide +kernel
theorem d_Mod_go_22 : decode b_Mod_go 22 = .ok (.aload_n 0, 1) := by decide +kernel
theorem d_Mod_go_23 : decode b_Mod_go 23 = .ok (.getfield 20, 3) := by decide +kernel
theorem d_Mod_go_26 : decode b_Mod_go 26 = .ok (.iload_n 2, 1) := by decide +kernel
theorem d_Mod_go_27 : decode b_Mod_go 27 = .ok (.iaload, 1) := by decide +kernel
theorem d_Mod_go_28 : decode b_Mod_go 28 = .ok (.istore_n 3, 1) := by decide +kernel
theorem d_Mod_go_29 : decode b_Mod_go 29 = .ok (.aload_n 0, 1) := by decide +kernel
theorem d_Mod_go_30 : decode b_Mod_go 30 = .ok (.iload_n 1, 1) := by decide +kernel
theorem d_Mod_go_31 : decode b_Mod_go 31 = .ok (.ifCond .le 13, 3) := by decide +kernel
theorem d_Mod_go_34 : decode b_Mod_go 34 = .ok (.iload_n 1, 1) := by decide +kernel
theorem d_Mod_go_35 : decode b_Mod_go 35 = .ok (.bipush 7, 2) := by decide +kernel
theorem d_Mod_go_37 : decode b_Mod_go 37 = .ok (.if_icmp .ge 7, 3) := by decide +kernel
theorem d_Mod_go_40 : decode b_Mod_go 40 = .ok (.iconst 1, 1) := by decide +kernel
theorem d_Mod_go_41 : decode b_Mod_go 41 = .ok (.goto 4, 3) := by decide +kernel
theorem d_Mod_go_44 : decode b_Mod_go 44 = .ok (.iconst 0, 1) := by decide +kernel
theorem d_Mod_go_45 : decode b_Mod_go 45 = .ok (.putfield 204, 3) := by decide +kernel
theorem d_Mod_go_48 : decode b_Mod_go 48 = .ok (.iconst 0, 1) := by decide +kernel
theorem d_Mod_go_49 : decode b_Mod_go 49 = .ok (.istore 4, 2) := by decide +kernel
theorem d_Mod_go_51 : decode b_Mod_go 51 = .ok (.iconst 0, 1) := by decide +kernel
theorem d_Mod_go_52 : decode b_Mod_go 52 = .ok (.istore 5, 2) := by decide +kernel
theorem d_Mod_go_54 : decode b_Mod_go 54 = .ok (.iload 5, 2) := by decide +kernel
theorem d_Mod_go_56 : decode b_Mod_go 56 = .ok (.bipush 20, 2) := by decide +kernel
theorem d_Mod_go_58 : decode b_Mod_go 58 = .ok (.if_icmp .ge 134, 3) := by decide +kernel
theorem d_Mod_go_61 : decode b_Mod_go 61 = .ok (.aload_n 0, 1) := by decide +kernel
theorem d_Mod_go_62 : decode b_Mod_go 62 = .ok (.getfield 52, 3) := by decide +kernel
theorem d_Mod_go_65 : decode b_Mod_go 65 = .ok (.iload 5, 2) := by decide +kernel
theorem d_Mod_go_67 : decode b_Mod_go 67 = .ok (.iaload, 1) := by decide +kernel
theorem d_Mod_go_68 : decode b_Mod_go 68 = .ok (.istore 6, 2) := by decide +kernel
theorem d_Mod_go_70 : decode b_Mod_go 70 = .ok (.iload 6, 2) := by decide +kernel
theorem d_Mod_go_72 : decode b_Mod_go 72 = .ok (.bipush 32, 2) := by decide +kernel
theorem d_Mod_go_74 : decode b_Mod_go 74 = .ok (.if_icmp .lt 34, 3) := by decide +kernel
theorem d_Mod_go_77 : decode b_Mod_go 77 = .ok (.aload_n 0, 1) := by decide +kernel
theorem d_Mod_go_78 : decode b_Mod_go 78 = .ok (.iload 5, 2) := by decide +kernel
theorem d_Mod_go_80 : decode b_Mod_go 80 = .ok (.iload 6, 2) := by decide +kernel
theorem d_Mod_go_82 : decode b_Mod_go 82 = .ok (.iload_n 3, 1) := by decide +kernel
theorem d_Mod_go_83 : decode b_Mod_go 83 = .ok (.invokevirtual 220, 3) := by decide +kernel
theorem d_Mod_go_86 : decode b_Mod_go 86 = .ok (.iload 4, 2) := by decide +kernel
theorem d_Mod_go_88 : decode b_Mod_go 88 = .ok (.ifCond .ne 10, 3) := by decide +kernel
theorem d_Mod_go_91 : decode b_Mod_go 91 = .ok (.aload_n 0, 1) := by decide +kernel
theorem d_Mod_go_92 : decode b_Mod_go 92 = .ok (.getfield 179, 3) := by decide +kernel
theorem d_Mod_go_95 : decode b_Mod_go 95 = .ok (.ifCond .eq 7, 3) := by decide +kernel
theorem d_Mod_go_98 : decode b_Mod_go 98 = .ok (.iconst 1, 1) := by decide +kernel
theorem d_Mod_go_99 : decode b_Mod_go 99 = .ok (.goto 4, 3) := by decide +kernel
theorem d_Mod_go_102 : decode b_Mod_go 102 = .ok (.iconst 0, 1) := by decide +kernel
theorem d_Mod_go_103 : decode b_Mod_go 103 = .ok (.istore 4, 2) := by decide +kernel
theorem d_Mod_go_105 : decode b_Mod_go 105 = .ok (.goto 81, 3) := by decide +kernel
theorem d_Mod_go_108 : decode b_Mod_go 108 = .ok (.aload_n 0, 1) := by decide +kernel
theorem d_Mod_go_109 : decode b_Mod_go 109 = .ok (.iload 6, 2) := by decide +kernel
theorem d_Mod_go_111 : decode b_Mod_go 111 = .ok (.invokevirtual 224, 3) := by decide +kernel
theorem d_Mod_go_114 : decode b_Mod_go 114 = .ok (.aload_n 0, 1) := by decide +kernel
theorem d_Mod_go_115 : decode b_Mod_go 115 = .ok (.getfield 185, 3) := by decide +kernel
theorem d_Mod_go_118 : decode b_Mod_go 118 = .ok (.ifCond .eq 14, 3) := by decide +kernel
theorem d_Mod_go_121 : decode b_Mod_go 121 = .ok (.aload_n 0, 1) := by decide +kernel
theorem d_Mod_go_122 : decode b_Mod_go 122 = .ok (.getfield 167, 3) := by decide +kernel
theorem d_Mod_go_125 : decode b_Mod_go 125 = .ok (.ifCond .eq 7, 3) := by decide +kernel
theorem d_Mod_go_128 : decode b_Mod_go 128 = .ok (.iconst 1, 1) := by decide +kernel
theorem d_Mod_go_129 : decode b_Mod_go 129 = .ok (.goto 4, 3) := by decide +kernel
theorem d_Mod_go_132 : decode b_Mod_go 132 = .ok (.iconst 0, 1) := by decide +kernel
theorem d_Mod_go_133 : decode b_Mod_go 133 = .ok (.istore 7, 2) := by decide +kernel
theorem d_Mod_go_135 : decode b_Mod_go 135 = .ok (.aload_n 0, 1) := by decide +kernel
theorem d_Mod_go_136 : decode b_Mod_go 136 = .ok (.iload 5, 2) := by decide +kernel
theorem d_Mod_go_138 : decode b_Mod_go 138 = .ok (.iload 7, 2) := by decide +kernel
theorem d_Mod_go_140 : decode b_Mod_go 140 = .ok (.ifCond .eq 10, 3) := by decide +kernel
theorem d_Mod_go_143 : decode b_Mod_go 143 = .ok (.aload_n 0, 1) := by decide +kernel
theorem d_Mod_go_144 : decode b_Mod_go 144 = .ok (.getfield 191, 3) := by decide +kernel
theorem d_Mod_go_147 : decode b_Mod_go 147 = .ok (.goto 5, 3) := by decide +kernel
theorem d_Mod_go_150 : decode b_Mod_go 150 = .ok (.bipush 32, 2) := by decide +kernel
theorem d_Mod_go_152 : decode b_Mod_go 152 = .ok (.iload 7, 2) := by decide +kernel
theorem d_Mod_go_154 : decode b_Mod_go 154 = .ok (.aload_n 0, 1) := by decide +kernel
theorem d_Mod_go_155 : decode b_Mod_go 155 = .ok (.getfield 194, 3) := by decide +kernel
theorem d_Mod_go_158 : decode b_Mod_go 158 = .ok (.invokevirtual 207, 3) := by decide +kernel
theorem d_Mod_go_161 : decode b_Mod_go 161 = .ok (.iload 4, 2) := by decide +kernel
theorem d_Mod_go_163 : decode b_Mod_go 163 = .ok (.ifCond .ne 10, 3) := by decide +kernel
theorem d_Mod_go_166 : decode b_Mod_go 166 = .ok (.aload_n 0, 1) := by decide +kernel
theorem d_Mod_go_167 : decode b_Mod_go 167 = .ok (.getfield 179, 3) := by decide +kernel
theorem d_Mod_go_170 : decode b_Mod_go 170 = .ok (.ifCond .eq 7, 3) := by decide +kernel
theorem d_Mod_go_173 : decode b_Mod_go 173 = .ok (.iconst 1, 1) := by decide +kernel
theorem d_Mod_go_174 : decode b_Mod_go 174 = .ok (.goto 4, 3) := by decide +kernel
theorem d_Mod_go_177 : decode b_Mod_go 177 = .ok (.iconst 0, 1) := by decide +kernel
theorem d_Mod_go_178 : decode b_Mod_go 178 = .ok (.istore 4, 2) := by decide +kernel
theorem d_Mod_go_180 : decode b_Mod_go 180 = .ok (.aload_n 0, 1) := by decide +kernel
theorem d_Mod_go_181 : decode b_Mod_go 181 = .ok (.iload 6, 2) := by decide +kernel
theorem d_Mod_go_183 : decode b_Mod_go 183 = .ok (.invokevirtual 227, 3) := by decide +kernel
theorem d_Mod_go_186 : decode b_Mod_go 186 = .ok (.iinc 5 1, 3) := by decide +kernel
theorem d_Mod_go_189 : decode b_Mod_go 189 = .ok (.goto (-135), 3) := by decide +kernel
theorem d_Mod_go_192 : decode b_Mod_go 192 = .ok (.iload 4, 2) := by decide +kernel
theorem d_Mod_go_194 : decode b_Mod_go 194 = .ok (.ireturn, 1) := by decide +kernel
theorem d_Mod_fetch_0 : decode b_Mod_fetch 0 = .ok (.aload_n 0, 1) := by decide +kernel
theorem d_Mod_fetch_1 : decode b_Mod_fetch 1 = .ok (.invokevirtual 154, 3) := by decide +kernel
theorem d_Mod_fetch_4 : decode b_Mod_fetch 4 = .ok (.istore_n 2, 1) := by decide +kernel
theorem d_Mod_fetch_5 : decode b_Mod_fetch 5 = .ok (.iconst 0, 1) := by decide +kernel
theorem d_Mod_fetch_6 : decode b_Mod_fetch 6 = .ok (.istore_n 3, 1) := by decide +kernel
theorem d_Mod_fetch_7 : decode b_Mod_fetch 7 = .ok (.iload_n 3, 1) := by decide +kernel
theorem d_Mod_fetch_8 : decode b_Mod_fetch 8 = .ok (.bipush 20, 2) := by decide +kernel
theorem d_Mod_fetch_10 : decode b_Mod_fetch 10 = .ok (.if_icmp .ge 85, 3) := by decide +kernel
theorem d_Mod_fetch_13 : decode b_Mod_fetch 13 = .ok (.aload_n 0, 1) := by decide +kernel
theorem d_Mod_fetch_14 : decode b_Mod_fetch 14 = .ok (.getfield 52, 3) := by decide +kernel
theorem d_Mod_fetch_17 : decode b_Mod_fetch 17 = .ok (.iload_n 3, 1) := by decide +kernel
theorem d_Mod_fetch_18 : decode b_Mod_fetch 18 = .ok (.iload_n 2, 1) := by decide +kernel
theorem d_Mod_fetch_19 : decode b_Mod_fetch 19 = .ok (.ifCond .lt 23, 3) := by decide +kernel
theorem d_Mod_fetch_22 : decode b_Mod_fetch 22 = .ok (.aload_n 0, 1) := by decide +kernel
theorem d_Mod_fetch_23 : decode b_Mod_fetch 23 = .ok (.getfield 29, 3) := by decide +kernel
theorem d_Mod_fetch_26 : decode b_Mod_fetch 26 = .ok (.sipush 160, 3) := by decide +kernel
theorem d_Mod_fetch_29 : decode b_Mod_fetch 29 = .ok (.iload_n 2, 1) := by decide +kernel
theorem d_Mod_fetch_30 : decode b_Mod_fetch 30 = .ok (.imul, 1) := by decide +kernel
theorem d_Mod_fetch_31 : decode b_Mod_fetch 31 = .ok (.bipush 20, 2) := by decide +kernel
theorem d_Mod_fetch_33 : decode b_Mod_fetch 33 = .ok (.iload_n 1, 1) := by decide +kernel
theorem d_Mod_fetch_34 : decode b_Mod_fetch 34 = .ok (.imul, 1) := by decide +kernel
theorem d_Mod_fetch_35 : decode b_Mod_fetch 35 = .ok (.iadd, 1) := by decide +kernel
theorem d_Mod_fetch_36 : decode b_Mod_fetch 36 = .ok (.iload_n 3, 1) := by decide +kernel
theorem d_Mod_fetch_37 : decode b_Mod_fetch 37 = .ok (.iadd, 1) := by decide +kernel
theorem d_Mod_fetch_38 : decode b_Mod_fetch 38 = .ok (.iaload, 1) := by decide +kernel
theorem d_Mod_fetch_39 : decode b_Mod_fetch 39 = .ok (.goto 18, 3) := by decide +kernel
theorem d_Mod_fetch_42 : decode b_Mod_fetch 42 = .ok (.iload_n 1, 1) := by decide +kernel
theorem d_Mod_fetch_43 : decode b_Mod_fetch 43 = .ok (.ifCond .ne 12, 3) := by decide +kernel
theorem d_Mod_fetch_46 : decode b_Mod_fetch 46 = .ok (.aload_n 0, 1) := by decide +kernel
theorem d_Mod_fetch_47 : decode b_Mod_fetch 47 = .ok (.getfield 35, 3) := by decide +kernel
theorem d_Mod_fetch_50 : decode b_Mod_fetch 50 = .ok (.iload_n 3, 1) := by decide +kernel
theorem d_Mod_fetch_51 : decode b_Mod_fetch 51 = .ok (.iaload, 1) := by decide +kernel
theorem d_Mod_fetch_52 : decode b_Mod_fetch 52 = .ok (.goto 5, 3) := by decide +kernel
theorem d_Mod_fetch_55 : decode b_Mod_fetch 55 = .ok (.bipush 32, 2) := by decide +kernel
theorem d_Mod_fetch_57 : decode b_Mod_fetch 57 = .ok (.iastore, 1) := by decide +kernel
theorem d_Mod_fetch_58 : decode b_Mod_fetch 58 = .ok (.aload_n 0, 1) := by decide +kernel
theorem d_Mod_fetch_59 : decode b_Mod_fetch 59 = .ok (.getfield 55, 3) := by decide +kernel
theorem d_Mod_fetch_62 : decode b_Mod_fetch 62 = .ok (.iload_n 3, 1) := by decide +kernel
theorem d_Mod_fetch_63 : decode b_Mod_fetch 63 = .ok (.iload_n 2, 1) := by decide +kernel
theorem d_Mod_fetch_64 : decode b_Mod_fetch 64 = .ok (.ifCond .lt 23, 3) := by decide +kernel
theorem d_Mod_fetch_67 : decode b_Mod_fetch 67 = .ok (.aload_n 0, 1) := by decide +kernel
theorem d_Mod_fetch_68 : decode b_Mod_fetch 68 = .ok (.getfield 32, 3) := by decide +kernel
theorem d_Mod_fetch_71 : decode b_Mod_fetch 71 = .ok (.sipush 160, 3) := by decide +kernel
theorem d_Mod_fetch_74 : decode b_Mod_fetch 74 = .ok (.iload_n 2, 1) := by decide +kernel
theorem d_Mod_fetch_75 : decode b_Mod_fetch 75 = .ok (.imul, 1) := by decide +kernel
theorem d_Mod_fetch_76 : decode b_Mod_fetch 76 = .ok (.bipush 20, 2) := by decide +kernel
theorem d_Mod_fetch_78 : decode b_Mod_fetch 78 = .ok (.iload_n 1, 1) := by decide +kernel
theorem d_Mod_fetch_79 : decode b_Mod_fetch 79 = .ok (.imul, 1) := by decide +kernel
theorem d_Mod_fetch_80 : decode b_Mod_fetch 80 = .ok (.iadd, 1) := by decide +kernel
theorem d_Mod_fetch_81 : decode b_Mod_fetch 81 = .ok (.iload_n 3, 1) := by decide +kernel
theorem d_Mod_fetch_82 : decode b_Mod_fetch 82 = .ok (.iadd, 1) := by decide +kernel
theorem d_Mod_fetch_83 : decode b_Mod_fetch 83 = .ok (.iaload, 1) := by decide +kernel
theorem d_Mod_fetch_84 : decode b_Mod_fetch 84 = .ok (.goto 4, 3) := by decide +kernel
theorem d_Mod_fetch_87 : decode b_Mod_fetch 87 = .ok (.iconst 0, 1) := by decide +kernel
theorem d_Mod_fetch_88 : decode b_Mod_fetch 88 = .ok (.iastore, 1) := by decide +kernel
theorem d_Mod_fetch_89 : decode b_Mod_fetch 89 = .ok (.iinc 3 1, 3) := by decide +kernel
theorem d_Mod_fetch_92 : decode b_Mod_fetch 92 = .ok (.goto (-85), 3) := by decide +kernel
theorem d_Mod_fetch_95 : decode b_Mod_fetch 95 = .ok (.iload_n 1, 1) := by decide +kernel
theorem d_Mod_fetch_96 : decode b_Mod_fetch 96 = .ok (.ifCond .ne 121, 3) := by decide +kernel
theorem d_Mod_fetch_99 : decode b_Mod_fetch 99 = .ok (.aload_n 0, 1) := by decide +kernel
theorem d_Mod_fetch_100 : decode b_Mod_fetch 100 = .ok (.getfield 52, 3) := by decide +kernel
theorem d_Mod_fetch_103 : decode b_Mod_fetch 103 = .ok (.iconst 0, 1) := by decide +kernel
theorem d_Mod_fetch_104 : decode b_Mod_fetch 104 = .ok (.bipush 80, 2) := by decide +kernel
theorem d_Mod_fetch_106 : decode b_Mod_fetch 106 = .ok (.iastore, 1) := by decide +kernel
theorem d_Mod_fetch_107 : decode b_Mod_fetch 107 = .ok (.aload_n 0, 1) := by decide +kernel
theorem d_Mod_fetch_108 : decode b_Mod_fetch 108 = .ok (.getfield 52, 3) := by decide +kernel
theorem d_Mod_fetch_111 : decode b_Mod_fetch 111 = .ok (.iconst 1, 1) := by decide +kernel
theorem d_Mod_fetch_112 : decode b_Mod_fetch 112 = .ok (.aload_n 0, 1) := by decide +kernel
theorem d_Mod_fetch_113 : decode b_Mod_fetch 113 = .ok (.getfield 44, 3) := by decide +kernel
theorem d_Mod_fetch_116 : decode b_Mod_fetch 116 = .ok (.sipush 256, 3) := by decide +kernel
theorem d_Mod_fetch_119 : decode b_Mod_fetch 119 = .ok (.if_icmp .ge 8, 3) := by decide +kernel
theorem d_Mod_fetch_122 : decode b_Mod_fetch 122 = .ok (.bipush 56, 2) := by decide +kernel
theorem d_Mod_fetch_124 : decode b_Mod_fetch 124 = .ok (.goto 14, 3) := by decide +kernel
theorem d_Mod_fetch_127 : decode b_Mod_fetch 127 = .ok (.bipush 48, 2) := by decide +kernel
theorem d_Mod_fetch_129 : decode b_Mod_fetch 129 = .ok (.aload_n 0, 1) := by decide +kernel
theorem d_Mod_fetch_130 : decode b_Mod_fetch 130 = .ok (.getfield 44, 3) := by decide +kernel
theorem d_Mod_fetch_133 : decode b_Mod_fetch 133 = .ok (.sipush 256, 3) := by decide +kernel
theorem d_Mod_fetch_136 : decode b_Mod_fetch 136 = .ok (.idiv, 1) := by decide +kernel
theorem d_Mod_fetch_137 : decode b_Mod_fetch 137 = .ok (.iadd, 1) := by decide +kernel
theorem d_Mod_fetch_138 : decode b_Mod_fetch 138 = .ok (.iastore, 1) := by decide +kernel
theorem d_Mod_fetch_139 : decode b_Mod_fetch 139 = .ok (.aload_n 0, 1) := by decide +kernel
theorem d_Mod_fetch_140 : decode b_Mod_fetch 140 = .ok (.getfield 52, 3) := by decide +kernel
theorem d_Mod_fetch_143 : decode b_Mod_fetch 143 = .ok (.iconst 2, 1) := by decide +kernel
theorem d_Mod_fetch_144 : decode b_Mod_fetch 144 = .ok (.aload_n 0, 1) := by decide +kernel
theorem d_Mod_fetch_145 : decode b_Mod_fetch 145 = .ok (.getfield 44, 3) := by decide +kernel
theorem d_Mod_fetch_148 : decode b_Mod_fetch 148 = .ok (.bipush 16, 2) := by decide +kernel
theorem d_Mod_fetch_150 : decode b_Mod_fetch 150 = .ok (.idiv, 1) := by decide +kernel
theorem d_Mod_fetch_151 : decode b_Mod_fetch 151 = .ok (.bipush 16, 2) := by decide +kernel
theorem d_Mod_fetch_153 : decode b_Mod_fetch 153 = .ok (.irem, 1) := by decide +kernel
theorem d_Mod_fetch_154 : decode b_Mod_fetch 154 = .ok (.invokestatic 158, 3) := by decide +kernel
theorem d_Mod_fetch_157 : decode b_Mod_fetch 157 = .ok (.iastore, 1) := by decide +kernel
theorem d_Mod_fetch_158 : decode b_Mod_fetch 158 = .ok (.aload_n 0, 1) := by decide +kernel
theorem d_Mod_fetch_159 : decode b_Mod_fetch 159 = .ok (.getfield 52, 3) := by decide +kernel
theorem d_Mod_fetch_162 : decode b_Mod_fetch 162 = .ok (.iconst 3, 1) := by decide +kernel
theorem d_Mod_fetch_163 : decode b_Mod_fetch 163 = .ok (.aload_n 0, 1) := by decide +kernel
theorem d_Mod_fetch_164 : decode b_Mod_fetch 164 = .ok (.getfield 44, 3) := by decide +kernel
theorem d_Mod_fetch_167 : decode b_Mod_fetch 167 = .ok (.bipush 16, 2) := by decide +kernel
theorem d_Mod_fetch_169 : decode b_Mod_fetch 169 = .ok (.irem, 1) := by decide +kernel
theorem d_Mod_fetch_170 : decode b_Mod_fetch 170 = .ok (.invokestatic 158, 3) := by decide +kernel
theorem d_Mod_fetch_173 : decode b_Mod_fetch 173 = .ok (.iastore, 1) := by decide +kernel
theorem d_Mod_fetch_174 : decode b_Mod_fetch 174 = .ok (.iconst 0, 1) := by decide +kernel
theorem d_Mod_fetch_175 : decode b_Mod_fetch 175 = .ok (.istore_n 3, 1) := by decide +kernel
theorem d_Mod_fetch_176 : decode b_Mod_fetch 176 = .ok (.iload_n 3, 1) := by decide +kernel
theorem d_Mod_fetch_177 : decode b_Mod_fetch 177 = .ok (.bipush 8, 2) := by decide +kernel
theorem d_Mod_fetch_179 : decode b_Mod_fetch 179 = .ok (.if_icmp .ge 38, 3) := by decide +kernel
theorem d_Mod_fetch_182 : decode b_Mod_fetch 182 = .ok (.aload_n 0, 1) := by decide +kernel
theorem d_Mod_fetch_183 : decode b_Mod_fetch 183 = .ok (.getfield 52, 3) := by decide +kernel
theorem d_Mod_fetch_186 : decode b_Mod_fetch 186 = .ok (.iload_n 3, 1) := by decide +kernel
theorem d_Mod_fetch_187 : decode b_Mod_fetch 187 = .ok (.iload_n 3, 1) := by decide +kernel
theorem d_Mod_fetch_188 : decode b_Mod_fetch 188 = .ok (.iconst 4, 1) := by decide +kernel
theorem d_Mod_fetch_189 : decode b_Mod_fetch 189 = .ok (.if_icmp .ge 12, 3) := by decide +kernel
theorem d_Mod_fetch_192 : decode b_Mod_fetch 192 = .ok (.aload_n 0, 1) := by decide +kernel
theorem d_Mod_fetch_193 : decode b_Mod_fetch 193 = .ok (.getfield 52, 3) := by decide +kernel
theorem d_Mod_fetch_196 : decode b_Mod_fetch 196 = .ok (.iload_n 3, 1) := by decide +kernel
theorem d_Mod_fetch_197 : decode b_Mod_fetch 197 = .ok (.iaload, 1) := by decide +kernel
theorem d_Mod_fetch_198 : decode b_Mod_fetch 198 = .ok (.goto 5, 3) := by decide +kernel
theorem d_Mod_fetch_201 : decode b_Mod_fetch 201 = .ok (.bipush 32, 2) := by decide +kernel
theorem d_Mod_fetch_203 : decode b_Mod_fetch 203 = .ok (.iastore, 1) := by decide +kernel
theorem d_Mod_fetch_204 : decode b_Mod_fetch 204 = .ok (.aload_n 0, 1) := by decide +kernel
theorem d_Mod_fetch_205 : decode b_Mod_fetch 205 = .ok (.getfield 55, 3) := by decide +kernel
theorem d_Mod_fetch_208 : decode b_Mod_fetch 208 = .ok (.iload_n 3, 1) := by decide +kernel
theorem d_Mod_fetch_209 : decode b_Mod_fetch 209 = .ok (.iconst 0, 1) := by decide +kernel
theorem d_Mod_fetch_210 : decode b_Mod_fetch 210 = .ok (.iastore, 1) := by decide +kernel
theorem d_Mod_fetch_211 : decode b_Mod_fetch 211 = .ok (.iinc 3 1, 3) := by decide +kernel
theorem d_Mod_fetch_214 : decode b_Mod_fetch 214 = .ok (.goto (-38), 3) := by decide +kernel
theorem d_Mod_fetch_217 : decode b_Mod_fetch 217 = .ok (.return_, 1) := by decide +kernel
theorem d_Mod_sign_0 : decode b_Mod_sign 0 = .ok (.iload_n 0, 1) := by decide +kernel
theorem d_Mod_sign_1 : decode b_Mod_sign 1 = .ok (.bipush 10, 2) := by decide +kernel
theorem d_Mod_sign_3 : decode b_Mod_sign 3 = .ok (.if_icmp .ge 10, 3) := by decide +kernel
theorem d_Mod_sign_6 : decode b_Mod_sign 6 = .ok (.bipush 48, 2) := by decide +kernel
theorem d_Mod_sign_8 : decode b_Mod_sign 8 = .ok (.iload_n 0, 1) := by decide +kernel
theorem d_Mod_sign_9 : decode b_Mod_sign 9 = .ok (.iadd, 1) := by decide +kernel
theorem d_Mod_sign_10 : decode b_Mod_sign 10 = .ok (.goto 7, 3) := by decide +kernel
theorem d_Mod_sign_13 : decode b_Mod_sign 13 = .ok (.bipush 55, 2) := by decide +kernel
theorem d_Mod_sign_15 : decode b_Mod_sign 15 = .ok (.iload_n 0, 1) := by decide +kernel
theorem d_Mod_sign_16 : decode b_Mod_sign 16 = .ok (.iadd, 1) := by decide +kernel
theorem d_Mod_sign_17 : decode b_Mod_sign 17 = .ok (.ireturn, 1) := by decide +kernel
theorem d_Mod_begin_0 : decode b_Mod_begin 0 = .ok (.aload_n 0, 1) := by decide +kernel
theorem d_Mod_begin_1 : decode b_Mod_begin 1 = .ok (.bipush 7, 2) := by decide +kernel
theorem d_Mod_begin_3 : decode b_Mod_begin 3 = .ok (.putfield 161, 3) := by decide +kernel
theorem d_Mod_begin_6 : decode b_Mod_begin 6 = .ok (.aload_n 0, 1) := by decide +kernel
theorem d_Mod_begin_7 : decode b_Mod_begin 7 = .ok (.iconst 0, 1) := by decide +kernel
theorem d_Mod_begin_8 : decode b_Mod_begin 8 = .ok (.putfield 164, 3) := by decide +kernel
theorem d_Mod_begin_11 : decode b_Mod_begin 11 = .ok (.aload_n 0, 1) := by decide +kernel
theorem d_Mod_begin_12 : decode b_Mod_begin 12 = .ok (.iconst 0, 1) := by decide +kernel
theorem d_Mod_begin_13 : decode b_Mod_begin 13 = .ok (.putfield 167, 3) := by decide +kernel
theorem d_Mod_begin_16 : decode b_Mod_begin 16 = .ok (.aload_n 0, 1) := by decide +kernel
theorem d_Mod_begin_17 : decode b_Mod_begin 17 = .ok (.iconst 0, 1) := by decide +kernel
theorem d_Mod_begin_18 : decode b_Mod_begin 18 = .ok (.putfield 170, 3) := by decide +kernel
theorem d_Mod_begin_21 : decode b_Mod_begin 21 = .ok (.aload_n 0, 1) := by decide +kernel
theorem d_Mod_begin_22 : decode b_Mod_begin 22 = .ok (.iconst 0, 1) := by decide +kernel
theorem d_Mod_begin_23 : decode b_Mod_begin 23 = .ok (.putfield 173, 3) := by decide +kernel
theorem d_Mod_begin_26 : decode b_Mod_begin 26 = .ok (.aload_n 0, 1) := by decide +kernel
theorem d_Mod_begin_27 : decode b_Mod_begin 27 = .ok (.iconst 0, 1) := by decide +kernel
theorem d_Mod_begin_28 : decode b_Mod_begin 28 = .ok (.putfield 176, 3) := by decide +kernel
theorem d_Mod_begin_31 : decode b_Mod_begin 31 = .ok (.aload_n 0, 1) := by decide +kernel
theorem d_Mod_begin_32 : decode b_Mod_begin 32 = .ok (.iconst 0, 1) := by decide +kernel
theorem d_Mod_begin_33 : decode b_Mod_begin 33 = .ok (.putfield 179, 3) := by decide +kernel
theorem d_Mod_begin_36 : decode b_Mod_begin 36 = .ok (.aload_n 0, 1) := by decide +kernel
theorem d_Mod_begin_37 : decode b_Mod_begin 37 = .ok (.iconst 0, 1) := by decide +kernel
theorem d_Mod_begin_38 : decode b_Mod_begin 38 = .ok (.putfield 182, 3) := by decide +kernel
theorem d_Mod_begin_41 : decode b_Mod_begin 41 = .ok (.aload_n 0, 1) := by decide +kernel
theorem d_Mod_begin_42 : decode b_Mod_begin 42 = .ok (.iconst 0, 1) := by decide +kernel
theorem d_Mod_begin_43 : decode b_Mod_begin 43 = .ok (.putfield 185, 3) := by decide +kernel
theorem d_Mod_begin_46 : decode b_Mod_begin 46 = .ok (.aload_n 0, 1) := by decide +kernel
theorem d_Mod_begin_47 : decode b_Mod_begin 47 = .ok (.invokevirtual 188, 3) := by decide +kernel
theorem d_Mod_begin_50 : decode b_Mod_begin 50 = .ok (.return_, 1) := by decide +kernel
end
section
theorem d_Mod_forget_0 : decode b_Mod_forget 0 = .ok (.aload_n 0, 1) := by decide +kernel
theorem d_Mod_forget_1 : decode b_Mod_forget 1 = .ok (.bipush 32, 2) := by decide +kernel
theorem d_Mod_forget_3 : decode b_Mod_forget 3 = .ok (.putfield 191, 3) := by decide +kernel
theorem d_Mod_forget_6 : decode b_Mod_forget 6 = .ok (.aload_n 0, 1) := by decide +kernel
theorem d_Mod_forget_7 : decode b_Mod_forget 7 = .ok (.iconst 0, 1) := by decide +kernel
theorem d_Mod_forget_8 : decode b_Mod_forget 8 = .ok (.putfield 194, 3) := by decide +kernel
theorem d_Mod_forget_11 : decode b_Mod_forget 11 = .ok (.return_, 1) := by decide +kernel
theorem d_Mod_noteLetter_0 : decode b_Mod_noteLetter 0 = .ok (.aload_n 0, 1) := by decide +kernel
theorem d_Mod_noteLetter_1 : decode b_Mod_noteLetter 1 = .ok (.getfield 167, 3) := by decide +kernel
theorem d_Mod_noteLetter_4 : decode b_Mod_noteLetter 4 = .ok (.ifCond .eq 19, 3) := by decide +kernel
theorem d_Mod_noteLetter_7 : decode b_Mod_noteLetter 7 = .ok (.iload_n 2, 1) := by decide +kernel
theorem d_Mod_noteLetter_8 : decode b_Mod_noteLetter 8 = .ok (.bipush 64, 2) := by decide +kernel
theorem d_Mod_noteLetter_10 : decode b_Mod_noteLetter 10 = .ok (.if_icmp .lt 9, 3) := by decide +kernel
theorem d_Mod_noteLetter_13 : decode b_Mod_noteLetter 13 = .ok (.iload_n 2, 1) := by decide +kernel
theorem d_Mod_noteLetter_14 : decode b_Mod_noteLetter 14 = .ok (.bipush 95, 2) := by decide +kernel
theorem d_Mod_noteLetter_16 : decode b_Mod_noteLetter 16 = .ok (.if_icmp .le 7, 3) := by decide +kernel
theorem d_Mod_noteLetter_19 : decode b_Mod_noteLetter 19 = .ok (.iconst 1, 1) := by decide +kernel
theorem d_Mod_noteLetter_20 : decode b_Mod_noteLetter 20 = .ok (.goto 4, 3) := by decide +kernel
theorem d_Mod_noteLetter_23 : decode b_Mod_noteLetter 23 = .ok (.iconst 0, 1) := by decide +kernel
theorem d_Mod_noteLetter_24 : decode b_Mod_noteLetter 24 = .ok (.istore 4, 2) := by decide +kernel
theorem d_Mod_noteLetter_26 : decode b_Mod_noteLetter 26 = .ok (.aload_n 0, 1) := by decide +kernel
theorem d_Mod_noteLetter_27 : decode b_Mod_noteLetter 27 = .ok (.getfield 55, 3) := by decide +kernel
theorem d_Mod_noteLetter_30 : decode b_Mod_noteLetter 30 = .ok (.iload_n 1, 1) := by decide +kernel
theorem d_Mod_noteLetter_31 : decode b_Mod_noteLetter 31 = .ok (.iaload, 1) := by decide +kernel
theorem d_Mod_noteLetter_32 : decode b_Mod_noteLetter 32 = .ok (.ifCond .eq 17, 3) := by decide +kernel
theorem d_Mod_noteLetter_35 : decode b_Mod_noteLetter 35 = .ok (.aload_n 0, 1) := by decide +kernel
theorem d_Mod_noteLetter_36 : decode b_Mod_noteLetter 36 = .ok (.iload_n 1, 1) := by decide +kernel
theorem d_Mod_noteLetter_37 : decode b_Mod_noteLetter 37 = .ok (.aload_n 0, 1) := by decide +kernel
theorem d_Mod_noteLetter_38 : decode b_Mod_noteLetter 38 = .ok (.getfield 55, 3) := by decide +kernel
theorem d_Mod_noteLetter_41 : decode b_Mod_noteLetter 41 = .ok (.iload_n 1, 1) := by decide +kernel
theorem d_Mod_noteLetter_42 : decode b_Mod_noteLetter 42 = .ok (.iaload, 1) := by decide +kernel
theorem d_Mod_noteLetter_43 : decode b_Mod_noteLetter 43 = .ok (.iconst 0, 1) := by decide +kernel
theorem d_Mod_noteLetter_44 : decode b_Mod_noteLetter 44 = .ok (.iconst 0, 1) := by decide +kernel
theorem d_Mod_noteLetter_45 : decode b_Mod_noteLetter 45 = .ok (.invokevirtual 207, 3) := by decide +kernel
theorem d_Mod_noteLetter_48 : decode b_Mod_noteLetter 48 = .ok (.return_, 1) := by decide +kernel
theorem d_Mod_noteLetter_49 : decode b_Mod_noteLetter 49 = .ok (.iload 4, 2) := by decide +kernel
theorem d_Mod_noteLetter_51 : decode b_Mod_noteLetter 51 = .ok (.ifCond .eq 28, 3) := by decide +kernel
theorem d_Mod_noteLetter_54 : decode b_Mod_noteLetter 54 = .ok (.aload_n 0, 1) := by decide +kernel
theorem d_Mod_noteLetter_55 : decode b_Mod_noteLetter 55 = .ok (.iload_n 2, 1) := by decide +kernel
theorem d_Mod_noteLetter_56 : decode b_Mod_noteLetter 56 = .ok (.putfield 191, 3) := by decide +kernel
theorem d_Mod_noteLetter_59 : decode b_Mod_noteLetter 59 = .ok (.aload_n 0, 1) := by decide +kernel
theorem d_Mod_noteLetter_60 : decode b_Mod_noteLetter 60 = .ok (.aload_n 0, 1) := by decide +kernel
theorem d_Mod_noteLetter_61 : decode b_Mod_noteLetter 61 = .ok (.getfield 182, 3) := by decide +kernel
theorem d_Mod_noteLetter_64 : decode b_Mod_noteLetter 64 = .ok (.putfield 194, 3) := by decide +kernel
theorem d_Mod_noteLetter_67 : decode b_Mod_noteLetter 67 = .ok (.aload_n 0, 1) := by decide +kernel
theorem d_Mod_noteLetter_68 : decode b_Mod_noteLetter 68 = .ok (.iload_n 1, 1) := by decide +kernel
theorem d_Mod_noteLetter_69 : decode b_Mod_noteLetter 69 = .ok (.iload_n 2, 1) := by decide +kernel
theorem d_Mod_noteLetter_70 : decode b_Mod_noteLetter 70 = .ok (.iconst 1, 1) := by decide +kernel
theorem d_Mod_noteLetter_71 : decode b_Mod_noteLetter 71 = .ok (.aload_n 0, 1) := by decide +kernel
theorem d_Mod_noteLetter_72 : decode b_Mod_noteLetter 72 = .ok (.getfield 182, 3) := by decide +kernel
theorem d_Mod_noteLetter_75 : decode b_Mod_noteLetter 75 = .ok (.invokevirtual 207, 3) := by decide +kernel
theorem d_Mod_noteLetter_78 : decode b_Mod_noteLetter 78 = .ok (.return_, 1) := by decide +kernel
theorem d_Mod_noteLetter_79 : decode b_Mod_noteLetter 79 = .ok (.iload_n 3, 1) := by decide +kernel
theorem d_Mod_noteLetter_80 : decode b_Mod_noteLetter 80 = .ok (.ifCond .ne 7, 3) := by decide +kernel
theorem d_Mod_noteLetter_83 : decode b_Mod_noteLetter 83 = .ok (.iconst (-1), 1) := by decide +kernel
theorem d_Mod_noteLetter_84 : decode b_Mod_noteLetter 84 = .ok (.goto 7, 3) := by decide +kernel
theorem d_Mod_noteLetter_87 : decode b_Mod_noteLetter 87 = .ok (.iload_n 2, 1) := by decide +kernel
theorem d_Mod_noteLetter_88 : decode b_Mod_noteLetter 88 = .ok (.invokestatic 211, 3) := by decide +kernel
theorem d_Mod_noteLetter_91 : decode b_Mod_noteLetter 91 = .ok (.istore 5, 2) := by decide +kernel
theorem d_Mod_noteLetter_93 : decode b_Mod_noteLetter 93 = .ok (.aload_n 0, 1) := by decide +kernel
theorem d_Mod_noteLetter_94 : decode b_Mod_noteLetter 94 = .ok (.iload_n 1, 1) := by decide +kernel
theorem d_Mod_noteLetter_95 : decode b_Mod_noteLetter 95 = .ok (.iload 5, 2) := by decide +kernel
theorem d_Mod_noteLetter_97 : decode b_Mod_noteLetter 97 = .ok (.ifCond .ge 7, 3) := by decide +kernel
theorem d_Mod_noteLetter_100 : decode b_Mod_noteLetter 100 = .ok (.iload_n 2, 1) := by decide +kernel
theorem d_Mod_noteLetter_101 : decode b_Mod_noteLetter 101 = .ok (.goto 14, 3) := by decide +kernel
theorem d_Mod_noteLetter_104 : decode b_Mod_noteLetter 104 = .ok (.sipush 512, 3) := by decide +kernel
theorem d_Mod_noteLetter_107 : decode b_Mod_noteLetter 107 = .ok (.bipush 16, 2) := by decide +kernel
theorem d_Mod_noteLetter_109 : decode b_Mod_noteLetter 109 = .ok (.iload_n 3, 1) := by decide +kernel
theorem d_Mod_noteLetter_110 : decode b_Mod_noteLetter 110 = .ok (.imul, 1) := by decide +kernel
theorem d_Mod_noteLetter_111 : decode b_Mod_noteLetter 111 = .ok (.iadd, 1) := by decide +kernel
theorem d_Mod_noteLetter_112 : decode b_Mod_noteLetter 112 = .ok (.iload 5, 2) := by decide +kernel
theorem d_Mod_noteLetter_114 : decode b_Mod_noteLetter 114 = .ok (.iadd, 1) := by decide +kernel
theorem d_Mod_noteLetter_115 : decode b_Mod_noteLetter 115 = .ok (.iconst 0, 1) := by decide +kernel
theorem d_Mod_noteLetter_116 : decode b_Mod_noteLetter 116 = .ok (.iconst 0, 1) := by decide +kernel
theorem d_Mod_noteLetter_117 : decode b_Mod_noteLetter 117 = .ok (.invokevirtual 207, 3) := by decide +kernel
theorem d_Mod_noteLetter_120 : decode b_Mod_noteLetter 120 = .ok (.return_, 1) := by decide +kernel
theorem d_Mod_note_0 : decode b_Mod_note 0 = .ok (.aload_n 0, 1) := by decide +kernel
theorem d_Mod_note_1 : decode b_Mod_note 1 = .ok (.getfield 173, 3) := by decide +kernel
theorem d_Mod_note_4 : decode b_Mod_note 4 = .ok (.ifCond .eq 10, 3) := by decide +kernel
theorem d_Mod_note_7 : decode b_Mod_note 7 = .ok (.aload_n 0, 1) := by decide +kernel
theorem d_Mod_note_8 : decode b_Mod_note 8 = .ok (.getfield 135, 3) := by decide +kernel
theorem d_Mod_note_11 : decode b_Mod_note 11 = .ok (.ifCond .eq 17, 3) := by decide +kernel
theorem d_Mod_note_14 : decode b_Mod_note 14 = .ok (.aload_n 0, 1) := by decide +kernel
theorem d_Mod_note_15 : decode b_Mod_note 15 = .ok (.getfield 170, 3) := by decide +kernel
theorem d_Mod_note_18 : decode b_Mod_note 18 = .ok (.ifCond .eq 14, 3) := by decide +kernel
theorem d_Mod_note_21 : decode b_Mod_note 21 = .ok (.aload_n 0, 1) := by decide +kernel
theorem d_Mod_note_22 : decode b_Mod_note 22 = .ok (.getfield 48, 3) := by decide +kernel
theorem d_Mod_note_25 : decode b_Mod_note 25 = .ok (.ifCond .ne 7, 3) := by decide +kernel
theorem d_Mod_note_28 : decode b_Mod_note 28 = .ok (.iconst 1, 1) := by decide +kernel
theorem d_Mod_note_29 : decode b_Mod_note 29 = .ok (.goto 4, 3) := by decide +kernel
theorem d_Mod_note_32 : decode b_Mod_note 32 = .ok (.iconst 0, 1) := by decide +kernel
theorem d_Mod_note_33 : decode b_Mod_note 33 = .ok (.istore 5, 2) := by decide +kernel
theorem d_Mod_note_35 : decode b_Mod_note 35 = .ok (.aload_n 0, 1) := by decide +kernel
theorem d_Mod_note_36 : decode b_Mod_note 36 = .ok (.getfield 58, 3) := by decide +kernel
theorem d_Mod_note_39 : decode b_Mod_note 39 = .ok (.iload_n 1, 1) := by decide +kernel
theorem d_Mod_note_40 : decode b_Mod_note 40 = .ok (.iload 5, 2) := by decide +kernel
theorem d_Mod_note_42 : decode b_Mod_note 42 = .ok (.ifCond .eq 8, 3) := by decide +kernel
theorem d_Mod_note_45 : decode b_Mod_note 45 = .ok (.bipush 32, 2) := by decide +kernel
theorem d_Mod_note_47 : decode b_Mod_note 47 = .ok (.goto 4, 3) := by decide +kernel
theorem d_Mod_note_50 : decode b_Mod_note 50 = .ok (.iload_n 2, 1) := by decide +kernel
theorem d_Mod_note_51 : decode b_Mod_note 51 = .ok (.iastore, 1) := by decide +kernel
theorem d_Mod_note_52 : decode b_Mod_note 52 = .ok (.aload_n 0, 1) := by decide +kernel
theorem d_Mod_note_53 : decode b_Mod_note 53 = .ok (.getfield 61, 3) := by decide +kernel
theorem d_Mod_note_56 : decode b_Mod_note 56 = .ok (.iload_n 1, 1) := by decide +kernel
theorem d_Mod_note_57 : decode b_Mod_note 57 = .ok (.aload_n 0, 1) := by decide +kernel
theorem d_Mod_note_58 : decode b_Mod_note 58 = .ok (.getfield 161, 3) := by decide +kernel
theorem d_Mod_note_61 : decode b_Mod_note 61 = .ok (.iastore, 1) := by decide +kernel
theorem d_Mod_note_62 : decode b_Mod_note 62 = .ok (.aload_n 0, 1) := by decide +kernel
theorem d_Mod_note_63 : decode b_Mod_note 63 = .ok (.getfield 64, 3) := by decide +kernel
theorem d_Mod_note_66 : decode b_Mod_note 66 = .ok (.iload_n 1, 1) := by decide +kernel
theorem d_Mod_note_67 : decode b_Mod_note 67 = .ok (.aload_n 0, 1) := by decide +kernel
theorem d_Mod_note_68 : decode b_Mod_note 68 = .ok (.getfield 164, 3) := by decide +kernel
theorem d_Mod_note_71 : decode b_Mod_note 71 = .ok (.iastore, 1) := by decide +kernel
theorem d_Mod_note_72 : decode b_Mod_note 72 = .ok (.iload_n 3, 1) := by decide +kernel
theorem d_Mod_note_73 : decode b_Mod_note 73 = .ok (.ifCond .eq 21, 3) := by decide +kernel
theorem d_Mod_note_76 : decode b_Mod_note 76 = .ok (.iload 5, 2) := by decide +kernel
theorem d_Mod_note_78 : decode b_Mod_note 78 = .ok (.ifCond .ne 16, 3) := by decide +kernel
theorem d_Mod_note_81 : decode b_Mod_note 81 = .ok (.iload 4, 2) := by decide +kernel
theorem d_Mod_note_83 : decode b_Mod_note 83 = .ok (.ifCond .eq 7, 3) := by decide +kernel
theorem d_Mod_note_86 : decode b_Mod_note 86 = .ok (.iconst 3, 1) := by decide +kernel
theorem d_Mod_note_87 : decode b_Mod_note 87 = .ok (.goto 8, 3) := by decide +kernel
theorem d_Mod_note_90 : decode b_Mod_note 90 = .ok (.iconst 1, 1) := by decide +kernel
theorem d_Mod_note_91 : decode b_Mod_note 91 = .ok (.goto 4, 3) := by decide +kernel
theorem d_Mod_note_94 : decode b_Mod_note 94 = .ok (.iconst 0, 1) := by decide +kernel
theorem d_Mod_note_95 : decode b_Mod_note 95 = .ok (.istore 6, 2) := by decide +kernel
theorem d_Mod_note_97 : decode b_Mod_note 97 = .ok (.aload_n 0, 1) := by decide +kernel
theorem d_Mod_note_98 : decode b_Mod_note 98 = .ok (.getfield 67, 3) := by decide +kernel
theorem d_Mod_note_101 : decode b_Mod_note 101 = .ok (.iload_n 1, 1) := by decide +kernel
theorem d_Mod_note_102 : decode b_Mod_note 102 = .ok (.iload 6, 2) := by decide +kernel
theorem d_Mod_note_104 : decode b_Mod_note 104 = .ok (.aload_n 0, 1) := by decide +kernel
theorem d_Mod_note_105 : decode b_Mod_note 105 = .ok (.getfield 179, 3) := by decide +kernel
theorem d_Mod_note_108 : decode b_Mod_note 108 = .ok (.ifCond .eq 14, 3) := by decide +kernel
theorem d_Mod_note_111 : decode b_Mod_note 111 = .ok (.aload_n 0, 1) := by decide +kernel
theorem d_Mod_note_112 : decode b_Mod_note 112 = .ok (.getfield 204, 3) := by decide +kernel
theorem d_Mod_note_115 : decode b_Mod_note 115 = .ok (.ifCond .eq 7, 3) := by decide +kernel
theorem d_Mod_note_118 : decode b_Mod_note 118 = .ok (.iconst 4, 1) := by decide +kernel
theorem d_Mod_note_119 : decode b_Mod_note 119 = .ok (.goto 4, 3) := by decide +kernel
theorem d_Mod_note_122 : decode b_Mod_note 122 = .ok (.iconst 0, 1) := by decide +kernel
theorem d_Mod_note_123 : decode b_Mod_note 123 = .ok (.iadd, 1) := by decide +kernel
theorem d_Mod_note_124 : decode b_Mod_note 124 = .ok (.aload_n 0, 1) := by decide +kernel
theorem d_Mod_note_125 : decode b_Mod_note 125 = .ok (.getfield 170, 3) := by decide +kernel
theorem d_Mod_note_128 : decode b_Mod_note 128 = .ok (.ifCond .eq 8, 3) := by decide +kernel
theorem d_Mod_note_131 : decode b_Mod_note 131 = .ok (.bipush 16, 2) := by decide +kernel
theorem d_Mod_note_133 : decode b_Mod_note 133 = .ok (.goto 4, 3) := by decide +kernel
theorem d_Mod_note_136 : decode b_Mod_note 136 = .ok (.iconst 0, 1) := by decide +kernel
theorem d_Mod_note_137 : decode b_Mod_note 137 = .ok (.iadd, 1) := by decide +kernel
theorem d_Mod_note_138 : decode b_Mod_note 138 = .ok (.aload_n 0, 1) := by decide +kernel
theorem d_Mod_note_139 : decode b_Mod_note 139 = .ok (.getfield 173, 3) := by decide +kernel
theorem d_Mod_note_142 : decode b_Mod_note 142 = .ok (.ifCond .eq 8, 3) := by decide +kernel
theorem d_Mod_note_145 : decode b_Mod_note 145 = .ok (.bipush 32, 2) := by decide +kernel
theorem d_Mod_note_147 : decode b_Mod_note 147 = .ok (.goto 4, 3) := by decide +kernel
theorem d_Mod_note_150 : decode b_Mod_note 150 = .ok (.iconst 0, 1) := by decide +kernel
theorem d_Mod_note_151 : decode b_Mod_note 151 = .ok (.iadd, 1) := by decide +kernel
theorem d_Mod_note_152 : decode b_Mod_note 152 = .ok (.aload_n 0, 1) := by decide +kernel
theorem d_Mod_note_153 : decode b_Mod_note 153 = .ok (.getfield 176, 3) := by decide +kernel
theorem d_Mod_note_156 : decode b_Mod_note 156 = .ok (.ifCond .eq 8, 3) := by decide +kernel
theorem d_Mod_note_159 : decode b_Mod_note 159 = .ok (.bipush 64, 2) := by decide +kernel
theorem d_Mod_note_161 : decode b_Mod_note 161 = .ok (.goto 4, 3) := by decide +kernel
theorem d_Mod_note_164 : decode b_Mod_note 164 = .ok (.iconst 0, 1) := by decide +kernel
theorem d_Mod_note_165 : decode b_Mod_note 165 = .ok (.iadd, 1) := by decide +kernel
theorem d_Mod_note_166 : decode b_Mod_note 166 = .ok (.iastore, 1) := by decide +kernel
theorem d_Mod_note_167 : decode b_Mod_note 167 = .ok (.return_, 1) := by decide +kernel
theorem d_Mod_changed_0 : decode b_Mod_changed 0 = .ok (.iload_n 0, 1) := by decide +kernel
theorem d_Mod_changed_1 : decode b_Mod_changed 1 = .ok (.bipush 35, 2) := by decide +kernel
theorem d_Mod_changed_3 : decode b_Mod_changed 3 = .ok (.if_icmp .eq 9, 3) := by decide +kernel
theorem d_Mod_changed_6 : decode b_Mod_changed 6 = .ok (.iload_n 0, 1) := by decide +kernel
theorem d_Mod_changed_7 : decode b_Mod_changed 7 = .ok (.bipush 36, 2) := by decide +kernel
theorem d_Mod_changed_9 : decode b_Mod_changed 9 = .ok (.if_icmp .ne 10, 3) := by decide +kernel
theorem d_Mod_changed_12 : decode b_Mod_changed 12 = .ok (.iload_n 0, 1) := by decide +kernel
theorem d_Mod_changed_13 : decode b_Mod_changed 13 = .ok (.bipush 35, 2) := by decide +kernel
theorem d_Mod_changed_15 : decode b_Mod_changed 15 = .ok (.isub, 1) := by decide +kernel
theorem d_Mod_changed_16 : decode b_Mod_changed 16 = .ok (.goto 52, 3) := by decide +kernel
theorem d_Mod_changed_19 : decode b_Mod_changed 19 = .ok (.iload_n 0, 1) := by decide +kernel
theorem d_Mod_changed_20 : decode b_Mod_changed 20 = .ok (.bipush 64, 2) := by decide +kernel
theorem d_Mod_changed_22 : decode b_Mod_changed 22 = .ok (.if_icmp .ne 7, 3) := by decide +kernel
theorem d_Mod_changed_25 : decode b_Mod_changed 25 = .ok (.iconst 2, 1) := by decide +kernel
theorem d_Mod_changed_26 : decode b_Mod_changed 26 = .ok (.goto 42, 3) := by decide +kernel
theorem d_Mod_changed_29 : decode b_Mod_changed 29 = .ok (.iload_n 0, 1) := by decide +kernel
theorem d_Mod_changed_30 : decode b_Mod_changed 30 = .ok (.bipush 90, 2) := by decide +kernel
theorem d_Mod_changed_32 : decode b_Mod_changed 32 = .ok (.if_icmp .le 16, 3) := by decide +kernel
theorem d_Mod_changed_35 : decode b_Mod_changed 35 = .ok (.iload_n 0, 1) := by decide +kernel
theorem d_Mod_changed_36 : decode b_Mod_changed 36 = .ok (.bipush 97, 2) := by decide +kernel
theorem d_Mod_changed_38 : decode b_Mod_changed 38 = .ok (.if_icmp .ge 10, 3) := by decide +kernel
theorem d_Mod_changed_41 : decode b_Mod_changed 41 = .ok (.iload_n 0, 1) := by decide +kernel
theorem d_Mod_changed_42 : decode b_Mod_changed 42 = .ok (.bipush 88, 2) := by decide +kernel
theorem d_Mod_changed_44 : decode b_Mod_changed 44 = .ok (.isub, 1) := by decide +kernel
theorem d_Mod_changed_45 : decode b_Mod_changed 45 = .ok (.goto 23, 3) := by decide +kernel
theorem d_Mod_changed_48 : decode b_Mod_changed 48 = .ok (.iload_n 0, 1) := by decide +kernel
theorem d_Mod_changed_49 : decode b_Mod_changed 49 = .ok (.bipush 122, 2) := by decide +kernel
theorem d_Mod_changed_51 : decode b_Mod_changed 51 = .ok (.if_icmp .le 16, 3) := by decide +kernel
theorem d_Mod_changed_54 : decode b_Mod_changed 54 = .ok (.iload_n 0, 1) := by decide +kernel
theorem d_Mod_changed_55 : decode b_Mod_changed 55 = .ok (.bipush 127, 2) := by decide +kernel
theorem d_Mod_changed_57 : decode b_Mod_changed 57 = .ok (.if_icmp .ge 10, 3) := by decide +kernel
theorem d_Mod_changed_60 : decode b_Mod_changed 60 = .ok (.iload_n 0, 1) := by decide +kernel
theorem d_Mod_changed_61 : decode b_Mod_changed 61 = .ok (.bipush 114, 2) := by decide +kernel
theorem d_Mod_changed_63 : decode b_Mod_changed 63 = .ok (.isub, 1) := by decide +kernel
theorem d_Mod_changed_64 : decode b_Mod_changed 64 = .ok (.goto 4, 3) := by decide +kernel
theorem d_Mod_changed_67 : decode b_Mod_changed 67 = .ok (.iconst (-1), 1) := by decide +kernel
theorem d_Mod_changed_68 : decode b_Mod_changed 68 = .ok (.ireturn, 1) := by decide +kernel
theorem d_Mod_before_0 : decode b_Mod_before 0 = .ok (.iload_n 1, 1) := by decide +kernel
theorem d_Mod_before_1 : decode b_Mod_before 1 = .ok (.tableswitch 170 9 30 #[103, 170, 170, 111, 170, 170, 170, 170, 170, 170, 170, 170, 170, 170, 170, 119, 127, 135, 170, 143, 151, 162], 103) := by decide +kernel
theorem d_Mod_before_104 : decode b_Mod_before 104 = .ok (.aload_n 0, 1) := by decide +kernel
theorem d_Mod_before_105 : decode b_Mod_before 105 = .ok (.iconst 0, 1) := by decide +kernel
theorem d_Mod_before_106 : decode b_Mod_before 106 = .ok (.putfield 170, 3) := by decide +kernel
theorem d_Mod_before_109 : decode b_Mod_before 109 = .ok (.goto 62, 3) := by decide +kernel
theorem d_Mod_before_112 : decode b_Mod_before 112 = .ok (.aload_n 0, 1) := by decide +kernel
theorem d_Mod_before_113 : decode b_Mod_before 113 = .ok (.iconst 0, 1) := by decide +kernel
theorem d_Mod_before_114 : decode b_Mod_before 114 = .ok (.invokevirtual 197, 3) := by decide +kernel
theorem d_Mod_before_117 : decode b_Mod_before 117 = .ok (.goto 54, 3) := by decide +kernel
theorem d_Mod_before_120 : decode b_Mod_before 120 = .ok (.aload_n 0, 1) := by decide +kernel
theorem d_Mod_before_121 : decode b_Mod_before 121 = .ok (.iconst 1, 1) := by decide +kernel
theorem d_Mod_before_122 : decode b_Mod_before 122 = .ok (.putfield 173, 3) := by decide +kernel
theorem d_Mod_before_125 : decode b_Mod_before 125 = .ok (.goto 46, 3) := by decide +kernel
theorem d_Mod_before_128 : decode b_Mod_before 128 = .ok (.aload_n 0, 1) := by decide +kernel
theorem d_Mod_before_129 : decode b_Mod_before 129 = .ok (.iconst 0, 1) := by decide +kernel
theorem d_Mod_before_130 : decode b_Mod_before 130 = .ok (.putfield 182, 3) := by decide +kernel
theorem d_Mod_before_133 : decode b_Mod_before 133 = .ok (.goto 38, 3) := by decide +kernel
theorem d_Mod_before_136 : decode b_Mod_before 136 = .ok (.aload_n 0, 1) := by decide +kernel
theorem d_Mod_before_137 : decode b_Mod_before 137 = .ok (.iconst 1, 1) := by decide +kernel
theorem d_Mod_before_138 : decode b_Mod_before 138 = .ok (.putfield 182, 3) := by decide +kernel
theorem d_Mod_before_141 : decode b_Mod_before 141 = .ok (.goto 30, 3) := by decide +kernel
theorem d_Mod_before_144 : decode b_Mod_before 144 = .ok (.aload_n 0, 1) := by decide +kernel
theorem d_Mod_before_145 : decode b_Mod_before 145 = .ok (.iconst 0, 1) := by decide +kernel
theorem d_Mod_before_146 : decode b_Mod_before 146 = .ok (.putfield 164, 3) := by decide +kernel
theorem d_Mod_before_149 : decode b_Mod_before 149 = .ok (.goto 22, 3) := by decide +kernel
theorem d_Mod_before_152 : decode b_Mod_before 152 = .ok (.aload_n 0, 1) := by decide +kernel
theorem d_Mod_before_153 : decode b_Mod_before 153 = .ok (.aload_n 0, 1) := by decide +kernel
theorem d_Mod_before_154 : decode b_Mod_before 154 = .ok (.getfield 161, 3) := by decide +kernel
theorem d_Mod_before_157 : decode b_Mod_before 157 = .ok (.putfield 164, 3) := by decide +kernel
theorem d_Mod_before_160 : decode b_Mod_before 160 = .ok (.goto 11, 3) := by decide +kernel
theorem d_Mod_before_163 : decode b_Mod_before 163 = .ok (.aload_n 0, 1) := by decide +kernel
theorem d_Mod_before_164 : decode b_Mod_before 164 = .ok (.iconst 1, 1) := by decide +kernel
theorem d_Mod_before_165 : decode b_Mod_before 165 = .ok (.putfield 185, 3) := by decide +kernel
theorem d_Mod_before_168 : decode b_Mod_before 168 = .ok (.goto 3, 3) := by decide +kernel
theorem d_Mod_before_171 : decode b_Mod_before 171 = .ok (.return_, 1) := by decide +kernel
theorem d_Mod_setTwice_0 : decode b_Mod_setTwice 0 = .ok (.aload_n 0, 1) := by decide +kernel
theorem d_Mod_setTwice_1 : decode b_Mod_setTwice 1 = .ok (.getfield 179, 3) := by decide +kernel
theorem d_Mod_setTwice_4 : decode b_Mod_setTwice 4 = .ok (.iload_n 1, 1) := by decide +kernel
theorem d_Mod_setTwice_5 : decode b_Mod_setTwice 5 = .ok (.if_icmp .eq 7, 3) := by decide +kernel
theorem d_Mod_setTwice_8 : decode b_Mod_setTwice 8 = .ok (.aload_n 0, 1) := by decide +kernel
theorem d_Mod_setTwice_9 : decode b_Mod_setTwice 9 = .ok (.invokevirtual 188, 3) := by decide +kernel
theorem d_Mod_setTwice_12 : decode b_Mod_setTwice 12 = .ok (.aload_n 0, 1) := by decide +kernel
theorem d_Mod_setTwice_13 : decode b_Mod_setTwice 13 = .ok (.iload_n 1, 1) := by decide +kernel
theorem d_Mod_setTwice_14 : decode b_Mod_setTwice 14 = .ok (.putfield 179, 3) := by decide +kernel
theorem d_Mod_setTwice_17 : decode b_Mod_setTwice 17 = .ok (.return_, 1) := by decide +kernel
theorem d_Mod_after_0 : decode b_Mod_after 0 = .ok (.iload_n 1, 1) := by decide +kernel
theorem d_Mod_after_1 : decode b_Mod_after 1 = .ok (.bipush 8, 2) := by decide +kernel
theorem d_Mod_after_3 : decode b_Mod_after 3 = .ok (.if_icmp .lt 15, 3) := by decide +kernel
theorem d_Mod_after_6 : decode b_Mod_after 6 = .ok (.iload_n 1, 1) := by decide +kernel
theorem d_Mod_after_7 : decode b_Mod_after 7 = .ok (.bipush 15, 2) := by decide +kernel
theorem d_Mod_after_9 : decode b_Mod_after 9 = .ok (.if_icmp .le 37, 3) := by decide +kernel
theorem d_Mod_after_12 : decode b_Mod_after 12 = .ok (.iload_n 1, 1) := by decide +kernel
theorem d_Mod_after_13 : decode b_Mod_after 13 = .ok (.bipush 24, 2) := by decide +kernel
theorem d_Mod_after_15 : decode b_Mod_after 15 = .ok (.if_icmp .ge 31, 3) := by decide +kernel
theorem d_Mod_after_18 : decode b_Mod_after 18 = .ok (.aload_n 0, 1) := by decide +kernel
theorem d_Mod_after_19 : decode b_Mod_after 19 = .ok (.iload_n 1, 1) := by decide +kernel
theorem d_Mod_after_20 : decode b_Mod_after 20 = .ok (.bipush 8, 2) := by decide +kernel
theorem d_Mod_after_22 : decode b_Mod_after 22 = .ok (.irem, 1) := by decide +kernel
theorem d_Mod_after_23 : decode b_Mod_after 23 = .ok (.putfield 161, 3) := by decide +kernel
theorem d_Mod_after_26 : decode b_Mod_after 26 = .ok (.aload_n 0, 1) := by decide +kernel
theorem d_Mod_after_27 : decode b_Mod_after 27 = .ok (.iload_n 1, 1) := by decide +kernel
theorem d_Mod_after_28 : decode b_Mod_after 28 = .ok (.bipush 15, 2) := by decide +kernel
theorem d_Mod_after_30 : decode b_Mod_after 30 = .ok (.if_icmp .le 7, 3) := by decide +kernel
theorem d_Mod_after_33 : decode b_Mod_after 33 = .ok (.iconst 1, 1) := by decide +kernel
theorem d_Mod_after_34 : decode b_Mod_after 34 = .ok (.goto 4, 3) := by decide +kernel
theorem d_Mod_after_37 : decode b_Mod_after 37 = .ok (.iconst 0, 1) := by decide +kernel
theorem d_Mod_after_38 : decode b_Mod_after 38 = .ok (.invokevirtual 201, 3) := by decide +kernel
theorem d_Mod_after_41 : decode b_Mod_after 41 = .ok (.aload_n 0, 1) := by decide +kernel
theorem d_Mod_after_42 : decode b_Mod_after 42 = .ok (.iconst 0, 1) := by decide +kernel
theorem d_Mod_after_43 : decode b_Mod_after 43 = .ok (.putfield 173, 3) := by decide +kernel
theorem d_Mod_after_46 : decode b_Mod_after 46 = .ok (.iload_n 1, 1) := by decide +kernel
theorem d_Mod_after_47 : decode b_Mod_after 47 = .ok (.lookupswitch 89 #[(8, 49), (10, 57), (11, 65), (13, 73), (31, 81)], 49) := by decide +kernel
theorem d_Mod_after_96 : decode b_Mod_after 96 = .ok (.aload_n 0, 1) := by decide +kernel
theorem d_Mod_after_97 : decode b_Mod_after 97 = .ok (.iconst 1, 1) := by decide +kernel
theorem d_Mod_after_98 : decode b_Mod_after 98 = .ok (.putfield 170, 3) := by decide +kernel
theorem d_Mod_after_101 : decode b_Mod_after 101 = .ok (.goto 35, 3) := by decide +kernel
theorem d_Mod_after_104 : decode b_Mod_after 104 = .ok (.aload_n 0, 1) := by decide +kernel
theorem d_Mod_after_105 : decode b_Mod_after 105 = .ok (.iconst 0, 1) := by decide +kernel
theorem d_Mod_after_106 : decode b_Mod_after 106 = .ok (.putfield 176, 3) := by decide +kernel
theorem d_Mod_after_109 : decode b_Mod_after 109 = .ok (.goto 27, 3) := by decide +kernel
theorem d_Mod_after_112 : decode b_Mod_after 112 = .ok (.aload_n 0, 1) := by decide +kernel
theorem d_Mod_after_113 : decode b_Mod_after 113 = .ok (.iconst 1, 1) := by decide +kernel
theorem d_Mod_after_114 : decode b_Mod_after 114 = .ok (.putfield 176, 3) := by decide +kernel
theorem d_Mod_after_117 : decode b_Mod_after 117 = .ok (.goto 19, 3) := by decide +kernel
theorem d_Mod_after_120 : decode b_Mod_after 120 = .ok (.aload_n 0, 1) := by decide +kernel
theorem d_Mod_after_121 : decode b_Mod_after 121 = .ok (.iconst 1, 1) := by decide +kernel
theorem d_Mod_after_122 : decode b_Mod_after 122 = .ok (.invokevirtual 197, 3) := by decide +kernel
theorem d_Mod_after_125 : decode b_Mod_after 125 = .ok (.goto 11, 3) := by decide +kernel
theorem d_Mod_after_128 : decode b_Mod_after 128 = .ok (.aload_n 0, 1) := by decide +kernel
theorem d_Mod_after_129 : decode b_Mod_after 129 = .ok (.iconst 0, 1) := by decide +kernel
theorem d_Mod_after_130 : decode b_Mod_after 130 = .ok (.putfield 185, 3) := by decide +kernel
theorem d_Mod_after_133 : decode b_Mod_after 133 = .ok (.goto 3, 3) := by decide +kernel
theorem d_Mod_after_136 : decode b_Mod_after 136 = .ok (.return_, 1) := by decide +kernel
theorem d_Mod_setMosaic_0 : decode b_Mod_setMosaic 0 = .ok (.aload_n 0, 1) := by decide +kernel
theorem d_Mod_setMosaic_1 : decode b_Mod_setMosaic 1 = .ok (.getfield 167, 3) := by decide +kernel
theorem d_Mod_setMosaic_4 : decode b_Mod_setMosaic 4 = .ok (.iload_n 1, 1) := by decide +kernel
theorem d_Mod_setMosaic_5 : decode b_Mod_setMosaic 5 = .ok (.if_icmp .eq 7, 3) := by decide +kernel
theorem d_Mod_setMosaic_8 : decode b_Mod_setMosaic 8 = .ok (.aload_n 0, 1) := by decide +kernel
theorem d_Mod_setMosaic_9 : decode b_Mod_setMosaic 9 = .ok (.invokevirtual 188, 3) := by decide +kernel
theorem d_Mod_setMosaic_12 : decode b_Mod_setMosaic 12 = .ok (.aload_n 0, 1) := by decide +kernel
theorem d_Mod_setMosaic_13 : decode b_Mod_setMosaic 13 = .ok (.iload_n 1, 1) := by decide +kernel
theorem d_Mod_setMosaic_14 : decode b_Mod_setMosaic 14 = .ok (.putfield 167, 3) := by decide +kernel
theorem d_Mod_setMosaic_17 : decode b_Mod_setMosaic 17 = .ok (.return_, 1) := by decide +kernel
theorem d_Mod_point_0 : decode b_Mod_point 0 = .ok (.iload_n 1, 1) := by decide +kernel
theorem d_Mod_point_1 : decode b_Mod_point 1 = .ok (.iload_n 2, 1) := by decide +kernel
theorem d_Mod_point_2 : decode b_Mod_point 2 = .ok (.invokestatic 233, 3) := by decide +kernel
theorem d_Mod_point_5 : decode b_Mod_point 5 = .ok (.ifCond .eq 23, 3) := by decide +kernel
theorem d_Mod_point_8 : decode b_Mod_point 8 = .ok (.iload_n 3, 1) := by decide +kernel
theorem d_Mod_point_9 : decode b_Mod_point 9 = .ok (.ifCond .lt 19, 3) := by decide +kernel
theorem d_Mod_point_12 : decode b_Mod_point 12 = .ok (.iload_n 3, 1) := by decide +kernel
theorem d_Mod_point_13 : decode b_Mod_point 13 = .ok (.iconst 3, 1) := by decide +kernel
theorem d_Mod_point_14 : decode b_Mod_point 14 = .ok (.if_icmp .gt 14, 3) := by decide +kernel
theorem d_Mod_point_17 : decode b_Mod_point 17 = .ok (.iload 4, 2) := by decide +kernel
theorem d_Mod_point_19 : decode b_Mod_point 19 = .ok (.ifCond .lt 9, 3) := by decide +kernel
theorem d_Mod_point_22 : decode b_Mod_point 22 = .ok (.iload 4, 2) := by decide +kernel
theorem d_Mod_point_24 : decode b_Mod_point 24 = .ok (.iconst 5, 1) := by decide +kernel
theorem d_Mod_point_25 : decode b_Mod_point 25 = .ok (.if_icmp .le 5, 3) := by decide +kernel
theorem d_Mod_point_28 : decode b_Mod_point 28 = .ok (.iconst (-1), 1) := by decide +kernel
theorem d_Mod_point_29 : decode b_Mod_point 29 = .ok (.ireturn, 1) := by decide +kernel
theorem d_Mod_point_30 : decode b_Mod_point 30 = .ok (.aload_n 0, 1) := by decide +kernel
theorem d_Mod_point_31 : decode b_Mod_point 31 = .ok (.iload_n 1, 1) := by decide +kernel
theorem d_Mod_point_32 : decode b_Mod_point 32 = .ok (.invokevirtual 237, 3) := by decide +kernel
theorem d_Mod_point_35 : decode b_Mod_point 35 = .ok (.aload_n 0, 1) := by decide +kernel
theorem d_Mod_point_36 : decode b_Mod_point 36 = .ok (.getfield 67, 3) := by decide +kernel
theorem d_Mod_point_39 : decode b_Mod_point 39 = .ok (.iload_n 2, 1) := by decide +kernel
theorem d_Mod_point_40 : decode b_Mod_point 40 = .ok (.iaload, 1) := by decide +kernel
theorem d_Mod_point_41 : decode b_Mod_point 41 = .ok (.istore 5, 2) := by decide +kernel
theorem d_Mod_point_43 : decode b_Mod_point 43 = .ok (.iload 5, 2) := by decide +kernel
theorem d_Mod_point_45 : decode b_Mod_point 45 = .ok (.iconst 4, 1) := by decide +kernel
theorem d_Mod_point_46 : decode b_Mod_point 46 = .ok (.iand, 1) := by decide +kernel
theorem d_Mod_point_47 : decode b_Mod_point 47 = .ok (.ifCond .eq 10, 3) := by decide +kernel
theorem d_Mod_point_50 : decode b_Mod_point 50 = .ok (.iload 4, 2) := by decide +kernel
theorem d_Mod_point_52 : decode b_Mod_point 52 = .ok (.iconst 2, 1) := by decide +kernel
theorem d_Mod_point_53 : decode b_Mod_point 53 = .ok (.idiv, 1) := by decide +kernel
theorem d_Mod_point_54 : decode b_Mod_point 54 = .ok (.goto 22, 3) := by decide +kernel
theorem d_Mod_point_57 : decode b_Mod_point 57 = .ok (.iload 5, 2) := by decide +kernel
theorem d_Mod_point_59 : decode b_Mod_point 59 = .ok (.bipush 8, 2) := by decide +kernel
theorem d_Mod_point_61 : decode b_Mod_point 61 = .ok (.iand, 1) := by decide +kernel
theorem d_Mod_point_62 : decode b_Mod_point 62 = .ok (.ifCond .eq 12, 3) := by decide +kernel
theorem d_Mod_point_65 : decode b_Mod_point 65 = .ok (.iconst 3, 1) := by decide +kernel
theorem d_Mod_point_66 : decode b_Mod_point 66 = .ok (.iload 4, 2) := by decide +kernel
theorem d_Mod_point_68 : decode b_Mod_point 68 = .ok (.iconst 2, 1) := by decide +kernel
theorem d_Mod_point_69 : decode b_Mod_point 69 = .ok (.idiv, 1) := by decide +kernel
theorem d_Mod_point_70 : decode b_Mod_point 70 = .ok (.iadd, 1) := by decide +kernel
theorem d_Mod_point_71 : decode b_Mod_point 71 = .ok (.goto 5, 3) := by decide +kernel
theorem d_Mod_point_74 : decode b_Mod_point 74 = .ok (.iload 4, 2) := by decide +kernel
theorem d_Mod_point_76 : decode b_Mod_point 76 = .ok (.istore 6, 2) := by decide +kernel
theorem d_Mod_point_78 : decode b_Mod_point 78 = .ok (.aload_n 0, 1) := by decide +kernel
theorem d_Mod_point_79 : decode b_Mod_point 79 = .ok (.getfield 58, 3) := by decide +kernel
theorem d_Mod_point_82 : decode b_Mod_point 82 = .ok (.iload_n 2, 1) := by decide +kernel
theorem d_Mod_point_83 : decode b_Mod_point 83 = .ok (.iaload, 1) := by decide +kernel
theorem d_Mod_point_84 : decode b_Mod_point 84 = .ok (.istore 7, 2) := by decide +kernel
theorem d_Mod_point_86 : decode b_Mod_point 86 = .ok (.iload 5, 2) := by decide +kernel
theorem d_Mod_point_88 : decode b_Mod_point 88 = .ok (.iconst 1, 1) := by decide +kernel
theorem d_Mod_point_89 : decode b_Mod_point 89 = .ok (.iand, 1) := by decide +kernel
theorem d_Mod_point_90 : decode b_Mod_point 90 = .ok (.ifCond .eq 67, 3) := by decide +kernel
theorem d_Mod_point_93 : decode b_Mod_point 93 = .ok (.iconst 2, 1) := by decide +kernel
theorem d_Mod_point_94 : decode b_Mod_point 94 = .ok (.iload 6, 2) := by decide +kernel
theorem d_Mod_point_96 : decode b_Mod_point 96 = .ok (.iconst 2, 1) := by decide +kernel
theorem d_Mod_point_97 : decode b_Mod_point 97 = .ok (.idiv, 1) := by decide +kernel
theorem d_Mod_point_98 : decode b_Mod_point 98 = .ok (.imul, 1) := by decide +kernel
theorem d_Mod_point_99 : decode b_Mod_point 99 = .ok (.iload_n 3, 1) := by decide +kernel
theorem d_Mod_point_100 : decode b_Mod_point 100 = .ok (.iconst 2, 1) := by decide +kernel
theorem d_Mod_point_101 : decode b_Mod_point 101 = .ok (.idiv, 1) := by decide +kernel
theorem d_Mod_point_102 : decode b_Mod_point 102 = .ok (.iadd, 1) := by decide +kernel
theorem d_Mod_point_103 : decode b_Mod_point 103 = .ok (.istore 9, 2) := by decide +kernel
theorem d_Mod_point_105 : decode b_Mod_point 105 = .ok (.iload 7, 2) := by decide +kernel
theorem d_Mod_point_107 : decode b_Mod_point 107 = .ok (.iload 9, 2) := by decide +kernel
theorem d_Mod_point_109 : decode b_Mod_point 109 = .ok (.iconst 5, 1) := by decide +kernel
theorem d_Mod_point_110 : decode b_Mod_point 110 = .ok (.if_icmp .ne 8, 3) := by decide +kernel
theorem d_Mod_point_113 : decode b_Mod_point 113 = .ok (.bipush 6, 2) := by decide +kernel
theorem d_Mod_point_115 : decode b_Mod_point 115 = .ok (.goto 5, 3) := by decide +kernel
theorem d_Mod_point_118 : decode b_Mod_point 118 = .ok (.iload 9, 2) := by decide +kernel
theorem d_Mod_point_120 : decode b_Mod_point 120 = .ok (.ishr, 1) := by decide +kernel
theorem d_Mod_point_121 : decode b_Mod_point 121 = .ok (.iconst 1, 1) := by decide +kernel
theorem d_Mod_point_122 : decode b_Mod_point 122 = .ok (.iand, 1) := by decide +kernel
theorem d_Mod_point_123 : decode b_Mod_point 123 = .ok (.iconst 1, 1) := by decide +kernel
theorem d_Mod_point_124 : decode b_Mod_point 124 = .ok (.if_icmp .ne 27, 3) := by decide +kernel
theorem d_Mod_point_127 : decode b_Mod_point 127 = .ok (.iload 5, 2) := by decide +kernel
theorem d_Mod_point_129 : decode b_Mod_point 129 = .ok (.iconst 2, 1) := by decide +kernel
theorem d_Mod_point_130 : decode b_Mod_point 130 = .ok (.iand, 1) := by decide +kernel
theorem d_Mod_point_131 : decode b_Mod_point 131 = .ok (.ifCond .eq 16, 3) := by decide +kernel
theorem d_Mod_point_134 : decode b_Mod_point 134 = .ok (.iload_n 3, 1) := by decide +kernel
theorem d_Mod_point_135 : decode b_Mod_point 135 = .ok (.iconst 2, 1) := by decide +kernel
theorem d_Mod_point_136 : decode b_Mod_point 136 = .ok (.irem, 1) := by decide +kernel
theorem d_Mod_point_137 : decode b_Mod_point 137 = .ok (.ifCond .ne 14, 3) := by decide +kernel
theorem d_Mod_point_140 : decode b_Mod_point 140 = .ok (.iload 6, 2) := by decide +kernel
theorem d_Mod_point_142 : decode b_Mod_point 142 = .ok (.iconst 2, 1) := by decide +kernel
theorem d_Mod_point_143 : decode b_Mod_point 143 = .ok (.irem, 1) := by decide +kernel
theorem d_Mod_point_144 : decode b_Mod_point 144 = .ok (.ifCond .ne 7, 3) := by decide +kernel
theorem d_Mod_point_147 : decode b_Mod_point 147 = .ok (.iconst 1, 1) := by decide +kernel
theorem d_Mod_point_148 : decode b_Mod_point 148 = .ok (.goto 4, 3) := by decide +kernel
theorem d_Mod_point_151 : decode b_Mod_point 151 = .ok (.iconst 0, 1) := by decide +kernel
theorem d_Mod_point_152 : decode b_Mod_point 152 = .ok (.istore 8, 2) := by decide +kernel
theorem d_Mod_point_154 : decode b_Mod_point 154 = .ok (.goto 41, 3) := by decide +kernel
theorem d_Mod_point_157 : decode b_Mod_point 157 = .ok (.iload 7, 2) := by decide +kernel
theorem d_Mod_point_159 : decode b_Mod_point 159 = .ok (.bipush 32, 2) := by decide +kernel
theorem d_Mod_point_161 : decode b_Mod_point 161 = .ok (.if_icmp .eq 31, 3) := by decide +kernel
theorem d_Mod_point_164 : decode b_Mod_point 164 = .ok (.iload 7, 2) := by decide +kernel
theorem d_Mod_point_166 : decode b_Mod_point 166 = .ok (.ldc 240, 2) := by decide +kernel
theorem d_Mod_point_168 : decode b_Mod_point 168 = .ok (.imul, 1) := by decide +kernel
theorem d_Mod_point_169 : decode b_Mod_point 169 = .ok (.iload 7, 2) := by decide +kernel
theorem d_Mod_point_171 : decode b_Mod_point 171 = .ok (.bipush 7, 2) := by decide +kernel
theorem d_Mod_point_173 : decode b_Mod_point 173 = .ok (.ishl, 1) := by decide +kernel
theorem d_Mod_point_174 : decode b_Mod_point 174 = .ok (.ixor, 1) := by decide +kernel
theorem d_Mod_point_175 : decode b_Mod_point 175 = .ok (.iload 6, 2) := by decide +kernel
theorem d_Mod_point_177 : decode b_Mod_point 177 = .ok (.iconst 4, 1) := by decide +kernel
theorem d_Mod_point_178 : decode b_Mod_point 178 = .ok (.imul, 1) := by decide +kernel
theorem d_Mod_point_179 : decode b_Mod_point 179 = .ok (.iload_n 3, 1) := by decide +kernel
theorem d_Mod_point_180 : decode b_Mod_point 180 = .ok (.iadd, 1) := by decide +kernel
theorem d_Mod_point_181 : decode b_Mod_point 181 = .ok (.ishr, 1) := by decide +kernel
theorem d_Mod_point_182 : decode b_Mod_point 182 = .ok (.iconst 1, 1) := by decide +kernel
theorem d_Mod_point_183 : decode b_Mod_point 183 = .ok (.iand, 1) := by decide +kernel
theorem d_Mod_point_184 : decode b_Mod_point 184 = .ok (.iconst 1, 1) := by decide +kernel
theorem d_Mod_point_185 : decode b_Mod_point 185 = .ok (.if_icmp .ne 7, 3) := by decide +kernel
theorem d_Mod_point_188 : decode b_Mod_point 188 = .ok (.iconst 1, 1) := by decide +kernel
theorem d_Mod_point_189 : decode b_Mod_point 189 = .ok (.goto 4, 3) := by decide +kernel
theorem d_Mod_point_192 : decode b_Mod_point 192 = .ok (.iconst 0, 1) := by decide +kernel
theorem d_Mod_point_193 : decode b_Mod_point 193 = .ok (.istore 8, 2) := by decide +kernel
theorem d_Mod_point_195 : decode b_Mod_point 195 = .ok (.iload 8, 2) := by decide +kernel
theorem d_Mod_point_197 : decode b_Mod_point 197 = .ok (.ifCond .eq 12, 3) := by decide +kernel
theorem d_Mod_point_200 : decode b_Mod_point 200 = .ok (.aload_n 0, 1) := by decide +kernel
theorem d_Mod_point_201 : decode b_Mod_point 201 = .ok (.getfield 61, 3) := by decide +kernel
theorem d_Mod_point_204 : decode b_Mod_point 204 = .ok (.iload_n 2, 1) := by decide +kernel
theorem d_Mod_point_205 : decode b_Mod_point 205 = .ok (.iaload, 1) := by decide +kernel
theorem d_Mod_point_206 : decode b_Mod_point 206 = .ok (.goto 9, 3) := by decide +kernel
theorem d_Mod_point_209 : decode b_Mod_point 209 = .ok (.aload_n 0, 1) := by decide +kernel
theorem d_Mod_point_210 : decode b_Mod_point 210 = .ok (.getfield 64, 3) := by decide +kernel
theorem d_Mod_point_213 : decode b_Mod_point 213 = .ok (.iload_n 2, 1) := by decide +kernel
theorem d_Mod_point_214 : decode b_Mod_point 214 = .ok (.iaload, 1) := by decide +kernel
theorem d_Mod_point_215 : decode b_Mod_point 215 = .ok (.ireturn, 1) := by decide +kernel
end
section
/-! The judgement of this claim: a method's walk over a picture of the heap (Pic). pg_K: the machine around a frame; pg_Z: class numbers and slots, the base address, array classes and the statics' arrays. -/
abbrev pg_K : Type := Program × Launch × Env × Room × State × MethodId × Array Value × List Frame × Method × Code
abbrev pg_Z : Type := va_G × Nat × (Nat → Nat)
def pg_A (z : pg_Z) : Nat → Prop := fun q => z.2.1 ≤ q
/-- the locals by their places: none is a place of which nothing is known -/
def pg_lv : Nat → List (Option Value) → List (Nat × Value)
  | _, [] => []
  | i, none :: t => pg_lv (i + 1) t
  | i, some v :: t => (i, v) :: pg_lv (i + 1) t
theorem pg_lv_at : ∀ (lv : List (Option Value)) (n i : Nat) (v : Value), lv[i]? = some (some v) → (n + i, v) ∈ pg_lv n lv := by
  intro lv
  induction lv with
  | nil => intro n i v h; simp at h
  | cons a t ih =>
    intro n i v h
    cases i with
    | zero =>
      simp at h
      subst h
      simp [pg_lv]
    | succ i =>
      have h2 : t[i]? = some (some v) := by simpa using h
      have h3 := ih (n + 1) i v h2
      rw [show n + (i + 1) = n + 1 + i by omega]
      cases a with
      | none => exact h3
      | some b => exact List.mem_cons_of_mem _ h3
theorem pg_lv_of : ∀ (lv : List (Option Value)) (n : Nat) (q : Nat × Value), q ∈ pg_lv n lv → ∃ i, q.1 = n + i ∧ lv[i]? = some (some q.2) := by
  intro lv
  induction lv with
  | nil => intro n q h; simp [pg_lv] at h
  | cons a t ih =>
    intro n q h
    cases a with
    | none =>
      obtain ⟨i, h1, h2⟩ := ih (n + 1) q h
      exact ⟨i + 1, by omega, by simpa using h2⟩
    | some b =>
      rcases List.mem_cons.mp h with h | h
      · exact ⟨0, by rw [h]; rfl, by rw [h]; rfl⟩
      · obtain ⟨i, h1, h2⟩ := ih (n + 1) q h
        exact ⟨i + 1, by omega, by simpa using h2⟩
/-- no long stands in the place before i -/
def pg_no2 (lv : List (Option Value)) (i : Nat) : Bool := match i with
  | 0 => true
  | j + 1 => match lv[j]? with
    | some (some v) => v.category == 1
    | _ => true
theorem pg_lv_set {ls : Array Slot} {nL i : Nat} {v : Value} {lv : List (Option Value)} (hk : pg_no2 lv i = true)
    (h : lv_has ls nL ((i, v) :: (pg_lv 0 lv).filter (fun q => !(q.1 == i) && !(q.1 + 1 == i && q.2.category == 2)))) : lv_has ls nL (pg_lv 0 (lv.set i (some v))) := by
  refine ⟨h.1, h.2.1, fun q hq => ?_⟩
  obtain ⟨j, e1, e2⟩ := pg_lv_of _ _ _ hq
  have e1 : q.1 = j := by omega
  by_cases hj : j = i
  · subst hj
    have hlt : j < lv.length := by
      have := (List.getElem?_eq_some_iff.mp e2).1
      simpa using this
    rw [List.getElem?_set_self hlt] at e2
    have e3 : v = q.2 := by simpa using e2
    have hq2 : q = (j, v) := by rw [e3]; exact Prod.ext e1 rfl
    rw [hq2]
    exact h.2.2 _ List.mem_cons_self
  · rw [List.getElem?_set_ne (Ne.symm hj)] at e2
    have hm : q ∈ pg_lv 0 lv := by
      have := pg_lv_at lv 0 j q.2 e2
      rw [show (0 + j, q.2) = q from Prod.ext (by omega) rfl] at this
      exact this
    refine h.2.2 q (List.mem_cons_of_mem _ (List.mem_filter.mpr ⟨hm, ?_⟩))
    simp only [Bool.and_eq_true, Bool.not_eq_true', beq_eq_false_iff_ne, ne_eq, Bool.and_eq_false_iff]
    refine ⟨by rw [e1]; exact hj, ?_⟩
    by_cases h1 : q.1 + 1 = i
    · right
      have hi : i = j + 1 := by omega
      subst hi
      simp only [pg_no2, e2] at hk
      intro h2
      rw [h2] at hk
      simp at hk
    · left; exact h1
theorem pg_lv_get {ls : Array Slot} {nL i : Nat} {v : Value} {lv : List (Option Value)} (hl : lv_has ls nL (pg_lv 0 lv)) (hi : lv[i]? = some (some v)) : ls[i]? = some (.val v) := by
  have h := pg_lv_at lv 0 i v hi
  rw [Nat.zero_add] at h
  exact hl.2.2 _ h
def pg_ty (z : pg_Z) : List (ClassId × FieldType) := [(z.2.2 0, .int), (z.2.2 1, .boolean), (z.2.2 2, .object "PageReceiver$Page")]
/-- what the tables and the statics say in a state: it stays over a walk -/
def pg_Kb (z : pg_Z) (U : State) : Prop :=
  va_K z.1 pg_cl (pg_ty z) U ∧
  (∀ x ∈ pg_nf, va_Nw (.fieldLinkNest x.1 x.2.1 x.2.2.1 x.2.2.2.1 x.2.2.2.2.1 x.2.2.2.2.2) U) ∧
  (∀ x ∈ pg_nm, va_Nw (.methodLinkNest x.1 x.2.1 x.2.2.1 x.2.2.2) U) ∧
  va_AO "PageReceiver$Page" U ∧ z.2.1 ≤ U.heap.size ∧
  (va_Z "PageReceiver" "CODE_WORDS" "[I" (.ref (z.2.2 3)) (pg_A z) U U.heap ∧ va_T .int (z.2.2 3) 16 (fun j => .int (pg_cw j)) (pg_A z) U U.heap) ∧
  (va_Z "PageReceiver" "CHECKED_PLACES" "[I" (.ref (z.2.2 4)) (pg_A z) U U.heap ∧ va_T .int (z.2.2 4) 5 (fun j => .int (pg_cp j)) (pg_A z) U U.heap)
theorem pg_Kb.at {z : pg_Z} {s U : State} {H : Heap} {locs : List Loc} (h : pg_Kb z s) (hW : s.WarmedH U.vm) (hS : va_S (pg_A z) s.heap H locs) (hU : U.heap = H) : pg_Kb z U := by
  obtain ⟨h1, h2, h3, h4, h5, ⟨h6, h7⟩, h8, h9⟩ := h
  have hk : ∀ a : Nat, a < s.heap.size → ¬ pg_A z a → U.heap[a]? = s.heap[a]? := fun a ha hn => by rw [hU]; exact hS.2.1 a ha hn
  exact ⟨h1.moved hW.alike, fun x hx => (h2 x hx).warmF hW, fun x hx => (h3 x hx).warmM hW, h4.moved hW.alike, Nat.le_trans h5 (by rw [hU]; exact hS.1),
    ⟨(h6.moved hW.alike).kept hk, (h7.moved hW.alike).kept hk⟩, (h8.moved hW.alike).kept hk, (h9.moved hW.alike).kept hk⟩
theorem pg_Kb.calling {z : pg_Z} {U : State} {g : JFrame} {mk : MethodId} {a : Array Value} (h : pg_Kb z U) : pg_Kb z (U.calling g mk a) := by
  obtain ⟨h1, h2, h3, h4, h5, ⟨h6, h7⟩, h8, h9⟩ := h
  have hv : U.vm.Alike (U.calling g mk a).vm := Vm.Alike.refl U.vm
  exact ⟨h1.moved hv, fun x hx => (h2 x hx).same rfl rfl, fun x hx => (h3 x hx).same rfl rfl, h4.moved hv, h5, ⟨h6.moved hv, h7.moved hv⟩, h8.moved hv, h9.moved hv⟩
abbrev pg_R (κ : pg_K) : Room := κ.2.2.2.1
abbrev pg_s (κ : pg_K) : State := κ.2.2.2.2.1
abbrev pg_m (κ : pg_K) : MethodId := κ.2.2.2.2.2.1
abbrev pg_args (κ : pg_K) : Array Value := κ.2.2.2.2.2.2.1
abbrev pg_below (κ : pg_K) : List Frame := κ.2.2.2.2.2.2.2.1
abbrev pg_meth (κ : pg_K) : Method := κ.2.2.2.2.2.2.2.2.1
abbrev pg_c (κ : pg_K) : Code := κ.2.2.2.2.2.2.2.2.2
/-- what is known around a frame of the method y -/
def pg_X (κ : pg_K) (z : pg_Z) (y : MethodName) (cc : ByteArray) (nL : Nat) (ret : Option FieldType) (rm : Room) : Prop :=
  κ.1.tables.exec = Jvm.exec ∧ (pg_c κ).code = cc ∧ (pg_c κ).maxLocals = nL ∧ (pg_s κ).vm.findClass y.cls = some (pg_m κ).cls ∧ (∀ w ∈ pg_ws, w.before (pg_args κ) (pg_s κ) = true) ∧ pg_Kb z (pg_s κ) ∧ pg_R κ = rm ∧ (pg_meth κ).sig.returnType = ret ∧ (pg_meth κ).locks = false ∧ (pg_meth κ).name = y.name
abbrev pg_W (κ : pg_K) (H : Heap) (locs : List Loc) (ce sl : Nat) (Q : State → Prop) (g : JFrame) : Prop := W κ.1 κ.2.1 κ.2.2.1 (pg_R κ) (pg_s κ) (pg_m κ) (pg_args κ) (pg_below κ) (pg_meth κ) (pg_c κ) H locs ce sl Q g
/-- from every heap with the picture Pic, at pc with these locals and this stack, the machine comes to Q -/
def pg_G (κ : pg_K) (z : pg_Z) (nL ce sl : Nat) (Q : State → Prop) (Pic : Heap → Prop) (pc : Nat) (lv : List (Option Value)) (st : List Value) : Prop :=
  ∀ (H : Heap) (locs : List Loc) (ls : Array Slot), Pic H → va_S (pg_A z) (pg_s κ).heap H locs → lv_has ls nL (pg_lv 0 lv) → pg_W κ H locs ce sl Q (F0 (pg_m κ) pc ls st)
def pg_Qc (z : pg_Z) (Post : Option Value → Heap → Prop) : Array Value → State → Outcome → State → Prop := fun _ st oc t => (∃ r, oc = .returned r ∧ Post r t.heap) ∧ va_F (pg_A z) st t
def pg_Pc (z : pg_Z) (as : List Value) (Pic : Heap → Prop) : Array Value → State → Prop := fun v U => v = as.toArray ∧ pg_Kb z U ∧ Pic U.heap
theorem pg_Pc.blind {z : pg_Z} {as : List Value} {Pic : Heap → Prop} : FrameBlind (pg_Pc z as Pic) := fun _ _ _ _ h => ⟨h.1, h.2.1.calling, h.2.2⟩
/-- the contract of y: from the picture Pic with the arguments as it returns, and Post holds of answer and heap -/
def pg_C (z : pg_Z) (y : MethodName) (cc : ByteArray) (nL : Nat) (ret : Option FieldType) (rm : Room) (as : List Value) (Pic : Heap → Prop) (Post : Option Value → Heap → Prop) : Prop :=
  ∀ l : Launch, Met l y (.code y cc nL ret :: pg_ws) rm (pg_Pc z as Pic) (pg_Qc z Post) rm.cells rm.slots (pg_A z)
def pg_Q (κ : pg_K) (z : pg_Z) (Post : Option Value → Heap → Prop) (mc ms : Nat) : State → Prop := MQ (pg_below κ) (pg_Qc z Post) (pg_args κ) (pg_s κ) mc ms (pg_A z)
theorem pg_enter {z : pg_Z} {y : MethodName} {cc : ByteArray} {nL : Nat} {ret : Option FieldType} {rm : Room} {as : List Value} {Pic : Heap → Prop} {Post : Option Value → Heap → Prop} {lv : List (Option Value)}
    (hy : plainName y.cls = true) (hn : (lg_sl as).length ≤ nL) (hlv : lv_args 0 as = pg_lv 0 lv)
    (body : ∀ κ : pg_K, pg_X κ z y cc nL ret rm → pg_G κ z nL 0 0 (pg_Q κ z Post rm.cells rm.slots) Pic 0 lv []) : pg_C z y cc nL ret rm as Pic Post := by
  intro l
  refine Met.ofW (cc := cc) (maxL := nL) (ret := ret) hy rfl ?_
  intro p e s m args below meth c s₁ B hml hv
  obtain ⟨rfl, hK, hP⟩ := hv
  have hts := atoms_spec (ws := Cond.code y cc nL ret :: pg_ws) B.pre
  rw [lg_entry_eq]
  refine body (p, l, e, (headSpec (Cond.code y cc nL ret :: pg_ws) rm).room, s, m, as.toArray, below, meth, c) ⟨B.exec, B.bytes, hml, findClass_of_methodNamed B.named, fun w hw => hts w (List.mem_cons_of_mem _ hw), hK, rfl, B.returns, B.notSynchronized, (name_of_methodNamed B.named B.method).1⟩ s.heap [] _ hP va_S.rf ?_
  rw [← hlv]
  exact lv_entry as hn
section PGCORE
variable {κ : pg_K} {z : pg_Z} {y : MethodName} {cc : ByteArray} {nL : Nat} {ret : Option FieldType} {rm : Room} {ce sl : Nat} {Q : State → Prop} {Pic Pic' : Heap → Prop} {pc : Nat} {lv : List (Option Value)} {st : List Value} {Post : Option Value → Heap → Prop}
theorem pg_wk (hp : ∀ H, Pic H → Pic' H) (k : pg_G κ z nL ce sl Q Pic' pc lv st) : pg_G κ z nL ce sl Q Pic pc lv st := fun H locs ls hP hS hl => k H locs ls (hp H hP) hS hl
theorem pg_ex {α : Sort _} {F : α → Heap → Prop} (k : ∀ a, pg_G κ z nL ce sl Q (F a) pc lv st) : pg_G κ z nL ce sl Q (fun H => ∃ a, F a H) pc lv st := fun H locs ls hP hS hl => by
  obtain ⟨a, ha⟩ := hP
  exact k a H locs ls ha hS hl
theorem pg_an {B : Prop} (k : B → pg_G κ z nL ce sl Q Pic pc lv st) : pg_G κ z nL ce sl Q (fun H => B ∧ Pic H) pc lv st := fun H locs ls hP hS hl => k hP.1 H locs ls hP.2 hS hl
theorem pg_wide {ce' sl' : Nat} (h1 : ce ≤ ce') (h2 : sl ≤ sl') (k : pg_G κ z nL ce' sl' Q Pic pc lv st) : pg_G κ z nL ce sl Q Pic pc lv st := fun H locs ls hP hS hl => W.widen h1 h2 (k H locs ls hP hS hl)
/-- fewer locals are known -/
theorem pg_fewer {lv' : List (Option Value)} (hs : ∀ q ∈ pg_lv 0 lv', q ∈ pg_lv 0 lv) (k : pg_G κ z nL ce sl Q Pic pc lv' st) : pg_G κ z nL ce sl Q Pic pc lv st := fun H locs ls hP hS hl => k H locs ls hP hS ⟨hl.1, hl.2.1, fun q hq => hl.2.2 q (hs q hq)⟩
theorem pg_iret {v : Int32} {ty : FieldType} (h : pg_X κ z y cc nL (some ty) rm) (d : decode cc pc = .ok (.ireturn, 1)) (hn : narrow ty (.int v) = .int v) (hp : ∀ H, Pic H → Post (some (.int v)) H) : pg_G κ z nL ce sl (pg_Q κ z Post ce sl) Pic pc lv [.int v] := fun H locs ls hP hS hl =>
  W.zret (ty := ty) h.1 h.2.1 h.2.2.2.2.2.2.2.1 hn (fun t ht _ => ⟨⟨_, rfl, by rw [ht]; exact hp H hP⟩, hS.F ht⟩) hS.2.2 d (hlocks := h.2.2.2.2.2.2.2.2.1)
theorem pg_vret (h : pg_X κ z y cc nL none rm) (d : decode cc pc = .ok (.return_, 1)) (hp : ∀ H, Pic H → Post none H) : pg_G κ z nL ce sl (pg_Q κ z Post ce sl) Pic pc lv [] := fun H locs ls hP hS hl =>
  W.vret h.1 h.2.1 h.2.2.2.2.2.2.2.1 (fun t ht _ => ⟨⟨_, rfl, by rw [ht]; exact hp H hP⟩, hS.F ht⟩) hS.2.2 d (hlocks := h.2.2.2.2.2.2.2.2.1)
theorem pg_aret {v : Value} {C : String} (h : pg_X κ z y cc nL (some (.object C)) rm) (d : decode cc pc = .ok (.areturn, 1)) (hv : v = .null ∨ ∃ a, v = .ref a) (hp : ∀ H, Pic H → Post (some v) H) : pg_G κ z nL ce sl (pg_Q κ z Post ce sl) Pic pc lv [v] := fun H locs ls hP hS hl =>
  W.aret h.1 h.2.1 h.2.2.2.2.2.2.2.1 (Or.inl ⟨C, rfl⟩) hv (fun t ht _ => ⟨⟨_, rfl, by rw [ht]; exact hp H hP⟩, hS.F ht⟩) hS.2.2 d (hlocks := h.2.2.2.2.2.2.2.2.1)
theorem pg_ldc {idx : Nat} {v : Int32} (h : pg_X κ z y cc nL ret rm) (d : decode cc pc = .ok (.ldc idx, 2)) (hc : Cond.constant y.cls idx v ∈ pg_ws) (k : pg_G κ z nL ce sl Q Pic (pc + 2) lv (.int v :: st)) : pg_G κ z nL ce sl Q Pic pc lv st := fun H locs ls hP hS hl => lv_ldc h.1 h.2.1 h.2.2.2.1 (h.2.2.2.2.1 _ hc) d (k H locs ls hP hS hl)
theorem pg_ldc2 {idx : Nat} {v : Int64} (h : pg_X κ z y cc nL ret rm) (d : decode cc pc = .ok (.ldc2_w idx, 3)) (hc : Cond.constantLong y.cls idx v ∈ pg_ws) (k : pg_G κ z nL ce sl Q Pic (pc + 3) lv (.long v :: st)) : pg_G κ z nL ce sl Q Pic pc lv st := fun H locs ls hP hS hl => lv_ldc2 h.1 h.2.1 h.2.2.2.1 (h.2.2.2.2.1 _ hc) d (k H locs ls hP hS hl)
end PGCORE
section PGROWS
variable {κ : pg_K} {z : pg_Z} {y : MethodName} {cc : ByteArray} {nL : Nat} {ret : Option FieldType} {rm : Room} {ce sl : Nat} {Q : State → Prop} {Pic : Heap → Prop} {pc : Nat} {lv : List (Option Value)} {st : List Value}
theorem pg_iconst {n : Int} {v : Int32} (h : pg_X κ z y cc nL ret rm) (d : decode cc pc = .ok (.iconst n, 1)) (hv : Int32.ofInt n = v) (k : pg_G κ z nL ce sl Q Pic (pc + 1) lv (.int v :: st)) : pg_G κ z nL ce sl Q Pic pc lv st := fun H locs ls hP hS hl => lv_iconst h.1 h.2.1 d hv (k H locs ls hP hS hl)
theorem pg_bipush {n : Int} {v : Int32} (h : pg_X κ z y cc nL ret rm) (d : decode cc pc = .ok (.bipush n, 2)) (hv : (Int8.ofInt n).toInt32 = v) (k : pg_G κ z nL ce sl Q Pic (pc + 2) lv (.int v :: st)) : pg_G κ z nL ce sl Q Pic pc lv st := fun H locs ls hP hS hl => lv_bipush h.1 h.2.1 d hv (k H locs ls hP hS hl)
theorem pg_sipush {n : Int} {v : Int32} (h : pg_X κ z y cc nL ret rm) (d : decode cc pc = .ok (.sipush n, 3)) (hv : (Int16.ofInt n).toInt32 = v) (k : pg_G κ z nL ce sl Q Pic (pc + 3) lv (.int v :: st)) : pg_G κ z nL ce sl Q Pic pc lv st := fun H locs ls hP hS hl => lv_sipush h.1 h.2.1 d hv (k H locs ls hP hS hl)
theorem pg_null (h : pg_X κ z y cc nL ret rm) (d : decode cc pc = .ok (.aconst_null, 1)) (k : pg_G κ z nL ce sl Q Pic (pc + 1) lv (.null :: st)) : pg_G κ z nL ce sl Q Pic pc lv st := fun H locs ls hP hS hl => lv_null h.1 h.2.1 d (k H locs ls hP hS hl)
theorem pg_iadd {x y' : Int32} (h : pg_X κ z y cc nL ret rm) (d : decode cc pc = .ok (.iadd, 1)) (k : pg_G κ z nL ce sl Q Pic (pc + 1) lv (.int (x + y') :: st)) : pg_G κ z nL ce sl Q Pic pc lv (.int y' :: .int x :: st) := fun H locs ls hP hS hl => lv_iadd h.1 h.2.1 d (k H locs ls hP hS hl)
theorem pg_isub {x y' : Int32} (h : pg_X κ z y cc nL ret rm) (d : decode cc pc = .ok (.isub, 1)) (k : pg_G κ z nL ce sl Q Pic (pc + 1) lv (.int (x - y') :: st)) : pg_G κ z nL ce sl Q Pic pc lv (.int y' :: .int x :: st) := fun H locs ls hP hS hl => lv_isub h.1 h.2.1 d (k H locs ls hP hS hl)
theorem pg_imul {x y' : Int32} (h : pg_X κ z y cc nL ret rm) (d : decode cc pc = .ok (.imul, 1)) (k : pg_G κ z nL ce sl Q Pic (pc + 1) lv (.int (x * y') :: st)) : pg_G κ z nL ce sl Q Pic pc lv (.int y' :: .int x :: st) := fun H locs ls hP hS hl => lv_imul h.1 h.2.1 d (k H locs ls hP hS hl)
theorem pg_iand {x y' : Int32} (h : pg_X κ z y cc nL ret rm) (d : decode cc pc = .ok (.iand, 1)) (k : pg_G κ z nL ce sl Q Pic (pc + 1) lv (.int (x &&& y') :: st)) : pg_G κ z nL ce sl Q Pic pc lv (.int y' :: .int x :: st) := fun H locs ls hP hS hl => lv_iand h.1 h.2.1 d (k H locs ls hP hS hl)
theorem pg_ior {x y' : Int32} (h : pg_X κ z y cc nL ret rm) (d : decode cc pc = .ok (.ior, 1)) (k : pg_G κ z nL ce sl Q Pic (pc + 1) lv (.int (x ||| y') :: st)) : pg_G κ z nL ce sl Q Pic pc lv (.int y' :: .int x :: st) := fun H locs ls hP hS hl => lv_ior h.1 h.2.1 d (k H locs ls hP hS hl)
theorem pg_ixor {x y' : Int32} (h : pg_X κ z y cc nL ret rm) (d : decode cc pc = .ok (.ixor, 1)) (k : pg_G κ z nL ce sl Q Pic (pc + 1) lv (.int (x ^^^ y') :: st)) : pg_G κ z nL ce sl Q Pic pc lv (.int y' :: .int x :: st) := fun H locs ls hP hS hl => lv_ixor h.1 h.2.1 d (k H locs ls hP hS hl)
theorem pg_ishl {x y' : Int32} (h : pg_X κ z y cc nL ret rm) (d : decode cc pc = .ok (.ishl, 1)) (k : pg_G κ z nL ce sl Q Pic (pc + 1) lv (.int (x <<< (y' &&& 31)) :: st)) : pg_G κ z nL ce sl Q Pic pc lv (.int y' :: .int x :: st) := fun H locs ls hP hS hl => lv_ishl h.1 h.2.1 d (k H locs ls hP hS hl)
theorem pg_ishr {x y' : Int32} (h : pg_X κ z y cc nL ret rm) (d : decode cc pc = .ok (.ishr, 1)) (k : pg_G κ z nL ce sl Q Pic (pc + 1) lv (.int (x >>> (y' &&& 31)) :: st)) : pg_G κ z nL ce sl Q Pic pc lv (.int y' :: .int x :: st) := fun H locs ls hP hS hl => lv_ishr h.1 h.2.1 d (k H locs ls hP hS hl)
theorem pg_idiv {x y' : Int32} (h : pg_X κ z y cc nL ret rm) (d : decode cc pc = .ok (.idiv, 1)) (hne : ¬ y' = 0) (k : pg_G κ z nL ce sl Q Pic (pc + 1) lv (.int (x / y') :: st)) : pg_G κ z nL ce sl Q Pic pc lv (.int y' :: .int x :: st) := fun H locs ls hP hS hl => lv_idiv h.1 h.2.1 d hne (k H locs ls hP hS hl)
theorem pg_irem {x y' : Int32} (h : pg_X κ z y cc nL ret rm) (d : decode cc pc = .ok (.irem, 1)) (hne : ¬ y' = 0) (k : pg_G κ z nL ce sl Q Pic (pc + 1) lv (.int (x - x / y' * y') :: st)) : pg_G κ z nL ce sl Q Pic pc lv (.int y' :: .int x :: st) := fun H locs ls hP hS hl => lv_irem h.1 h.2.1 d hne (k H locs ls hP hS hl)
theorem pg_ineg {x : Int32} (h : pg_X κ z y cc nL ret rm) (d : decode cc pc = .ok (.ineg, 1)) (k : pg_G κ z nL ce sl Q Pic (pc + 1) lv (.int (-x) :: st)) : pg_G κ z nL ce sl Q Pic pc lv (.int x :: st) := fun H locs ls hP hS hl => lv_ineg h.1 h.2.1 d (k H locs ls hP hS hl)
theorem pg_iushr {x y' : Int32} (h : pg_X κ z y cc nL ret rm) (d : decode cc pc = .ok (.iushr, 1)) (k : pg_G κ z nL ce sl Q Pic (pc + 1) lv (.int (x.toUInt32 >>> (y'.toUInt32 &&& Int32.toUInt32 31)).toInt32 :: st)) : pg_G κ z nL ce sl Q Pic pc lv (.int y' :: .int x :: st) := fun H locs ls hP hS hl => lv_iushr h.1 h.2.1 d rfl (k H locs ls hP hS hl)
theorem pg_lushr {x : Int64} {y' : Int32} (h : pg_X κ z y cc nL ret rm) (d : decode cc pc = .ok (.lushr, 1)) (k : pg_G κ z nL ce sl Q Pic (pc + 1) lv (.long (x.toUInt64 >>> (y'.toInt64.toUInt64 &&& Int64.toUInt64 63)).toInt64 :: st)) : pg_G κ z nL ce sl Q Pic pc lv (.int y' :: .long x :: st) := fun H locs ls hP hS hl => lv_lushr h.1 h.2.1 d rfl (k H locs ls hP hS hl)
theorem pg_lshl {x : Int64} {y' : Int32} (h : pg_X κ z y cc nL ret rm) (d : decode cc pc = .ok (.lshl, 1)) (k : pg_G κ z nL ce sl Q Pic (pc + 1) lv (.long (x <<< (y'.toInt64 &&& 63)) :: st)) : pg_G κ z nL ce sl Q Pic pc lv (.int y' :: .long x :: st) := fun H locs ls hP hS hl => lv_lshl h.1 h.2.1 d rfl (k H locs ls hP hS hl)
theorem pg_lshr {x : Int64} {y' : Int32} (h : pg_X κ z y cc nL ret rm) (d : decode cc pc = .ok (.lshr, 1)) (k : pg_G κ z nL ce sl Q Pic (pc + 1) lv (.long (x >>> (y'.toInt64 &&& 63)) :: st)) : pg_G κ z nL ce sl Q Pic pc lv (.int y' :: .long x :: st) := fun H locs ls hP hS hl => lv_lshr h.1 h.2.1 d rfl (k H locs ls hP hS hl)
theorem pg_land {x y' : Int64} (h : pg_X κ z y cc nL ret rm) (d : decode cc pc = .ok (.land, 1)) (k : pg_G κ z nL ce sl Q Pic (pc + 1) lv (.long (x &&& y') :: st)) : pg_G κ z nL ce sl Q Pic pc lv (.long y' :: .long x :: st) := fun H locs ls hP hS hl => lv_land h.1 h.2.1 d (k H locs ls hP hS hl)
theorem pg_lor {x y' : Int64} (h : pg_X κ z y cc nL ret rm) (d : decode cc pc = .ok (.lor, 1)) (k : pg_G κ z nL ce sl Q Pic (pc + 1) lv (.long (x ||| y') :: st)) : pg_G κ z nL ce sl Q Pic pc lv (.long y' :: .long x :: st) := fun H locs ls hP hS hl => lv_lor h.1 h.2.1 d (k H locs ls hP hS hl)
theorem pg_i2l {x : Int32} (h : pg_X κ z y cc nL ret rm) (d : decode cc pc = .ok (.i2l, 1)) (k : pg_G κ z nL ce sl Q Pic (pc + 1) lv (.long x.toInt64 :: st)) : pg_G κ z nL ce sl Q Pic pc lv (.int x :: st) := fun H locs ls hP hS hl => lv_i2l h.1 h.2.1 d rfl (k H locs ls hP hS hl)
theorem pg_l2i {x : Int64} (h : pg_X κ z y cc nL ret rm) (d : decode cc pc = .ok (.l2i, 1)) (k : pg_G κ z nL ce sl Q Pic (pc + 1) lv (.int x.toInt32 :: st)) : pg_G κ z nL ce sl Q Pic pc lv (.long x :: st) := fun H locs ls hP hS hl => lv_l2i h.1 h.2.1 d rfl (k H locs ls hP hS hl)
theorem pg_dup {va : Value} (h : pg_X κ z y cc nL ret rm) (d : decode cc pc = .ok (.dup, 1)) (hva : va.category = 1) (k : pg_G κ z nL ce sl Q Pic (pc + 1) lv (va :: va :: st)) : pg_G κ z nL ce sl Q Pic pc lv (va :: st) := fun H locs ls hP hS hl => lv_dup h.1 h.2.1 d hva (k H locs ls hP hS hl)
theorem pg_pop {va : Value} (h : pg_X κ z y cc nL ret rm) (d : decode cc pc = .ok (.pop, 1)) (hva : va.category = 1) (k : pg_G κ z nL ce sl Q Pic (pc + 1) lv st) : pg_G κ z nL ce sl Q Pic pc lv (va :: st) := fun H locs ls hP hS hl => lv_pop h.1 h.2.1 d hva (k H locs ls hP hS hl)
theorem pg_dup_x1 {va vb : Value} (h : pg_X κ z y cc nL ret rm) (d : decode cc pc = .ok (.dup_x1, 1)) (hva : va.category = 1) (hvb : vb.category = 1) (k : pg_G κ z nL ce sl Q Pic (pc + 1) lv (va :: vb :: va :: st)) : pg_G κ z nL ce sl Q Pic pc lv (va :: vb :: st) := fun H locs ls hP hS hl => lv_dup_x1 h.1 h.2.1 d hva hvb (k H locs ls hP hS hl)
theorem pg_dup_x2 {va vb vd : Value} (h : pg_X κ z y cc nL ret rm) (d : decode cc pc = .ok (.dup_x2, 1)) (hva : va.category = 1) (hvb : vb.category = 1) (hvd : vd.category = 1) (k : pg_G κ z nL ce sl Q Pic (pc + 1) lv (va :: vb :: vd :: va :: st)) : pg_G κ z nL ce sl Q Pic pc lv (va :: vb :: vd :: st) := fun H locs ls hP hS hl => lv_dup_x2 h.1 h.2.1 d hva hvb hvd (k H locs ls hP hS hl)
theorem pg_dup2 {va vb : Value} (h : pg_X κ z y cc nL ret rm) (d : decode cc pc = .ok (.dup2, 1)) (hva : va.category = 1) (hvb : vb.category = 1) (k : pg_G κ z nL ce sl Q Pic (pc + 1) lv (va :: vb :: va :: vb :: st)) : pg_G κ z nL ce sl Q Pic pc lv (va :: vb :: st) := fun H locs ls hP hS hl => lv_dup2_11 h.1 h.2.1 d hva hvb (k H locs ls hP hS hl)
theorem pg_iload {i : Nat} {x : Int32} (h : pg_X κ z y cc nL ret rm) (d : decode cc pc = .ok (.iload i, 2)) (hi : lv[i]? = some (some (.int x))) (k : pg_G κ z nL ce sl Q Pic (pc + 2) lv (.int x :: st)) : pg_G κ z nL ce sl Q Pic pc lv st := fun H locs ls hP hS hl => lv_iload h.1 h.2.1 d (pg_lv_get hl hi) (k H locs ls hP hS hl)
theorem pg_iload_n {j : Fin 4} {x : Int32} (h : pg_X κ z y cc nL ret rm) (d : decode cc pc = .ok (.iload_n j, 1)) (hi : lv[(j : Nat)]? = some (some (.int x))) (k : pg_G κ z nL ce sl Q Pic (pc + 1) lv (.int x :: st)) : pg_G κ z nL ce sl Q Pic pc lv st := fun H locs ls hP hS hl => lv_iload_n h.1 h.2.1 d rfl (pg_lv_get hl hi) (k H locs ls hP hS hl)
theorem pg_lload {i : Nat} {x : Int64} (h : pg_X κ z y cc nL ret rm) (d : decode cc pc = .ok (.lload i, 2)) (hi : lv[i]? = some (some (.long x))) (k : pg_G κ z nL ce sl Q Pic (pc + 2) lv (.long x :: st)) : pg_G κ z nL ce sl Q Pic pc lv st := fun H locs ls hP hS hl => lv_lload h.1 h.2.1 d (pg_lv_get hl hi) (k H locs ls hP hS hl)
theorem pg_lload_n {j : Fin 4} {x : Int64} (h : pg_X κ z y cc nL ret rm) (d : decode cc pc = .ok (.lload_n j, 1)) (hi : lv[(j : Nat)]? = some (some (.long x))) (k : pg_G κ z nL ce sl Q Pic (pc + 1) lv (.long x :: st)) : pg_G κ z nL ce sl Q Pic pc lv st := fun H locs ls hP hS hl => lv_lload_n h.1 h.2.1 d rfl (pg_lv_get hl hi) (k H locs ls hP hS hl)
theorem pg_aload {i : Nat} {x : Nat} (h : pg_X κ z y cc nL ret rm) (d : decode cc pc = .ok (.aload i, 2)) (hi : lv[i]? = some (some (.ref x))) (k : pg_G κ z nL ce sl Q Pic (pc + 2) lv (.ref x :: st)) : pg_G κ z nL ce sl Q Pic pc lv st := fun H locs ls hP hS hl => lv_aload h.1 h.2.1 d (pg_lv_get hl hi) (k H locs ls hP hS hl)
theorem pg_aload_n {j : Fin 4} {x : Nat} (h : pg_X κ z y cc nL ret rm) (d : decode cc pc = .ok (.aload_n j, 1)) (hi : lv[(j : Nat)]? = some (some (.ref x))) (k : pg_G κ z nL ce sl Q Pic (pc + 1) lv (.ref x :: st)) : pg_G κ z nL ce sl Q Pic pc lv st := fun H locs ls hP hS hl => lv_aload_n h.1 h.2.1 d rfl (pg_lv_get hl hi) (k H locs ls hP hS hl)
theorem pg_aloadN {i : Nat} (h : pg_X κ z y cc nL ret rm) (d : decode cc pc = .ok (.aload i, 2)) (hi : lv[i]? = some (some .null)) (k : pg_G κ z nL ce sl Q Pic (pc + 2) lv (.null :: st)) : pg_G κ z nL ce sl Q Pic pc lv st := fun H locs ls hP hS hl => lv_aloadN h.1 h.2.1 d (pg_lv_get hl hi) (k H locs ls hP hS hl)
theorem pg_aload_nN {j : Fin 4} (h : pg_X κ z y cc nL ret rm) (d : decode cc pc = .ok (.aload_n j, 1)) (hi : lv[(j : Nat)]? = some (some .null)) (k : pg_G κ z nL ce sl Q Pic (pc + 1) lv (.null :: st)) : pg_G κ z nL ce sl Q Pic pc lv st := fun H locs ls hP hS hl => lv_aload_nN h.1 h.2.1 d rfl (pg_lv_get hl hi) (k H locs ls hP hS hl)
theorem pg_istore {i : Nat} {x : Int32} {lv' : List (Option Value)} (h : pg_X κ z y cc nL ret rm) (d : decode cc pc = .ok (.istore i, 2)) (hn : i < nL) (h2 : pg_no2 lv i = true) (hl' : lv.set i (some (.int x)) = lv') (k : pg_G κ z nL ce sl Q Pic (pc + 2) (lv') st) : pg_G κ z nL ce sl Q Pic pc lv (.int x :: st) := fun H locs ls hP hS hl => lv_istore h.1 h.2.1 d hl hn rfl (fun ls' hl2 => k H locs ls' hP hS (hl' ▸ pg_lv_set h2 hl2))
theorem pg_istore_n {j : Fin 4} {x : Int32} {lv' : List (Option Value)} (h : pg_X κ z y cc nL ret rm) (d : decode cc pc = .ok (.istore_n j, 1)) (hn : (j : Nat) < nL) (h2 : pg_no2 lv j = true) (hl' : lv.set j (some (.int x)) = lv') (k : pg_G κ z nL ce sl Q Pic (pc + 1) (lv') st) : pg_G κ z nL ce sl Q Pic pc lv (.int x :: st) := fun H locs ls hP hS hl => lv_istore_n h.1 h.2.1 d rfl hl hn rfl (fun ls' hl2 => k H locs ls' hP hS (hl' ▸ pg_lv_set h2 hl2))
theorem pg_astore {i : Nat} {x : Nat} {lv' : List (Option Value)} (h : pg_X κ z y cc nL ret rm) (d : decode cc pc = .ok (.astore i, 2)) (hn : i < nL) (h2 : pg_no2 lv i = true) (hl' : lv.set i (some (.ref x)) = lv') (k : pg_G κ z nL ce sl Q Pic (pc + 2) (lv') st) : pg_G κ z nL ce sl Q Pic pc lv (.ref x :: st) := fun H locs ls hP hS hl => lv_astore h.1 h.2.1 d hl hn rfl (fun ls' hl2 => k H locs ls' hP hS (hl' ▸ pg_lv_set h2 hl2))
theorem pg_astore_n {j : Fin 4} {x : Nat} {lv' : List (Option Value)} (h : pg_X κ z y cc nL ret rm) (d : decode cc pc = .ok (.astore_n j, 1)) (hn : (j : Nat) < nL) (h2 : pg_no2 lv j = true) (hl' : lv.set j (some (.ref x)) = lv') (k : pg_G κ z nL ce sl Q Pic (pc + 1) (lv') st) : pg_G κ z nL ce sl Q Pic pc lv (.ref x :: st) := fun H locs ls hP hS hl => lv_astore_n h.1 h.2.1 d rfl hl hn rfl (fun ls' hl2 => k H locs ls' hP hS (hl' ▸ pg_lv_set h2 hl2))
theorem pg_astoreN {i : Nat} {lv' : List (Option Value)} (h : pg_X κ z y cc nL ret rm) (d : decode cc pc = .ok (.astore i, 2)) (hn : i < nL) (h2 : pg_no2 lv i = true) (hl' : lv.set i (some .null) = lv') (k : pg_G κ z nL ce sl Q Pic (pc + 2) (lv') st) : pg_G κ z nL ce sl Q Pic pc lv (.null :: st) := fun H locs ls hP hS hl => lv_astoreN h.1 h.2.1 d hl hn rfl (fun ls' hl2 => k H locs ls' hP hS (hl' ▸ pg_lv_set h2 hl2))
theorem pg_astore_nN {j : Fin 4} {lv' : List (Option Value)} (h : pg_X κ z y cc nL ret rm) (d : decode cc pc = .ok (.astore_n j, 1)) (hn : (j : Nat) < nL) (h2 : pg_no2 lv j = true) (hl' : lv.set j (some .null) = lv') (k : pg_G κ z nL ce sl Q Pic (pc + 1) (lv') st) : pg_G κ z nL ce sl Q Pic pc lv (.null :: st) := fun H locs ls hP hS hl => lv_astore_nN h.1 h.2.1 d rfl hl hn rfl (fun ls' hl2 => k H locs ls' hP hS (hl' ▸ pg_lv_set h2 hl2))
theorem pg_iinc {i : Nat} {n : Int} {x w : Int32} {lv' : List (Option Value)} (h : pg_X κ z y cc nL ret rm) (d : decode cc pc = .ok (.iinc i n, 3)) (hi : lv[i]? = some (some (.int x))) (hv : Int32.ofInt n = w) (hn : i < nL) (h2 : pg_no2 lv i = true) (hl' : lv.set i (some (.int (x + w))) = lv') (k : pg_G κ z nL ce sl Q Pic (pc + 3) (lv') st) : pg_G κ z nL ce sl Q Pic pc lv st := fun H locs ls hP hS hl => by
  obtain ⟨q, hq⟩ := List.getElem?_of_mem (pg_lv_at lv 0 i _ hi)
  rw [Nat.zero_add] at hq
  exact lv_iinc h.1 h.2.1 d hl hq (by rw [hv]) hn rfl (fun ls' hl2 => k H locs ls' hP hS (hl' ▸ pg_lv_set h2 hl2))
theorem pg_if_eq {x : Int32} {off : Int} {tgt : Nat} (h : pg_X κ z y cc nL ret rm) (d : decode cc pc = .ok (.ifCond .eq off, 3)) (ht : (pc : Int) + off = (tgt : Int)) (kt : x = 0 → pg_G κ z nL ce sl Q Pic tgt lv st) (kf : ¬ x = 0 → pg_G κ z nL ce sl Q Pic (pc + 3) lv st) : pg_G κ z nL ce sl Q Pic pc lv (.int x :: st) := fun H locs ls hP hS hl => lv_if_eq h.1 h.2.1 d ht (fun hc => kt hc H locs ls hP hS hl) (fun hc => kf hc H locs ls hP hS hl)
theorem pg_icmp_eq {x y' : Int32} {off : Int} {tgt : Nat} (h : pg_X κ z y cc nL ret rm) (d : decode cc pc = .ok (.if_icmp .eq off, 3)) (ht : (pc : Int) + off = (tgt : Int)) (kt : x = y' → pg_G κ z nL ce sl Q Pic tgt lv st) (kf : ¬ x = y' → pg_G κ z nL ce sl Q Pic (pc + 3) lv st) : pg_G κ z nL ce sl Q Pic pc lv (.int y' :: .int x :: st) := fun H locs ls hP hS hl => lv_icmp_eq h.1 h.2.1 d ht (fun hc => kt hc H locs ls hP hS hl) (fun hc => kf hc H locs ls hP hS hl)
theorem pg_if_ne {x : Int32} {off : Int} {tgt : Nat} (h : pg_X κ z y cc nL ret rm) (d : decode cc pc = .ok (.ifCond .ne off, 3)) (ht : (pc : Int) + off = (tgt : Int)) (kt : ¬ x = 0 → pg_G κ z nL ce sl Q Pic tgt lv st) (kf : x = 0 → pg_G κ z nL ce sl Q Pic (pc + 3) lv st) : pg_G κ z nL ce sl Q Pic pc lv (.int x :: st) := fun H locs ls hP hS hl => lv_if_ne h.1 h.2.1 d ht (fun hc => kt hc H locs ls hP hS hl) (fun hc => kf hc H locs ls hP hS hl)
theorem pg_icmp_ne {x y' : Int32} {off : Int} {tgt : Nat} (h : pg_X κ z y cc nL ret rm) (d : decode cc pc = .ok (.if_icmp .ne off, 3)) (ht : (pc : Int) + off = (tgt : Int)) (kt : ¬ x = y' → pg_G κ z nL ce sl Q Pic tgt lv st) (kf : x = y' → pg_G κ z nL ce sl Q Pic (pc + 3) lv st) : pg_G κ z nL ce sl Q Pic pc lv (.int y' :: .int x :: st) := fun H locs ls hP hS hl => lv_icmp_ne h.1 h.2.1 d ht (fun hc => kt hc H locs ls hP hS hl) (fun hc => kf hc H locs ls hP hS hl)
theorem pg_if_lt {x : Int32} {off : Int} {tgt : Nat} (h : pg_X κ z y cc nL ret rm) (d : decode cc pc = .ok (.ifCond .lt off, 3)) (ht : (pc : Int) + off = (tgt : Int)) (kt : x < 0 → pg_G κ z nL ce sl Q Pic tgt lv st) (kf : ¬ x < 0 → pg_G κ z nL ce sl Q Pic (pc + 3) lv st) : pg_G κ z nL ce sl Q Pic pc lv (.int x :: st) := fun H locs ls hP hS hl => lv_if_lt h.1 h.2.1 d ht (fun hc => kt hc H locs ls hP hS hl) (fun hc => kf hc H locs ls hP hS hl)
theorem pg_icmp_lt {x y' : Int32} {off : Int} {tgt : Nat} (h : pg_X κ z y cc nL ret rm) (d : decode cc pc = .ok (.if_icmp .lt off, 3)) (ht : (pc : Int) + off = (tgt : Int)) (kt : x < y' → pg_G κ z nL ce sl Q Pic tgt lv st) (kf : ¬ x < y' → pg_G κ z nL ce sl Q Pic (pc + 3) lv st) : pg_G κ z nL ce sl Q Pic pc lv (.int y' :: .int x :: st) := fun H locs ls hP hS hl => lv_icmp_lt h.1 h.2.1 d ht (fun hc => kt hc H locs ls hP hS hl) (fun hc => kf hc H locs ls hP hS hl)
theorem pg_if_ge {x : Int32} {off : Int} {tgt : Nat} (h : pg_X κ z y cc nL ret rm) (d : decode cc pc = .ok (.ifCond .ge off, 3)) (ht : (pc : Int) + off = (tgt : Int)) (kt : 0 ≤ x → pg_G κ z nL ce sl Q Pic tgt lv st) (kf : ¬ 0 ≤ x → pg_G κ z nL ce sl Q Pic (pc + 3) lv st) : pg_G κ z nL ce sl Q Pic pc lv (.int x :: st) := fun H locs ls hP hS hl => lv_if_ge h.1 h.2.1 d ht (fun hc => kt hc H locs ls hP hS hl) (fun hc => kf hc H locs ls hP hS hl)
theorem pg_icmp_ge {x y' : Int32} {off : Int} {tgt : Nat} (h : pg_X κ z y cc nL ret rm) (d : decode cc pc = .ok (.if_icmp .ge off, 3)) (ht : (pc : Int) + off = (tgt : Int)) (kt : y' ≤ x → pg_G κ z nL ce sl Q Pic tgt lv st) (kf : ¬ y' ≤ x → pg_G κ z nL ce sl Q Pic (pc + 3) lv st) : pg_G κ z nL ce sl Q Pic pc lv (.int y' :: .int x :: st) := fun H locs ls hP hS hl => lv_icmp_ge h.1 h.2.1 d ht (fun hc => kt hc H locs ls hP hS hl) (fun hc => kf hc H locs ls hP hS hl)
theorem pg_if_gt {x : Int32} {off : Int} {tgt : Nat} (h : pg_X κ z y cc nL ret rm) (d : decode cc pc = .ok (.ifCond .gt off, 3)) (ht : (pc : Int) + off = (tgt : Int)) (kt : 0 < x → pg_G κ z nL ce sl Q Pic tgt lv st) (kf : ¬ 0 < x → pg_G κ z nL ce sl Q Pic (pc + 3) lv st) : pg_G κ z nL ce sl Q Pic pc lv (.int x :: st) := fun H locs ls hP hS hl => lv_if_gt h.1 h.2.1 d ht (fun hc => kt hc H locs ls hP hS hl) (fun hc => kf hc H locs ls hP hS hl)
theorem pg_icmp_gt {x y' : Int32} {off : Int} {tgt : Nat} (h : pg_X κ z y cc nL ret rm) (d : decode cc pc = .ok (.if_icmp .gt off, 3)) (ht : (pc : Int) + off = (tgt : Int)) (kt : y' < x → pg_G κ z nL ce sl Q Pic tgt lv st) (kf : ¬ y' < x → pg_G κ z nL ce sl Q Pic (pc + 3) lv st) : pg_G κ z nL ce sl Q Pic pc lv (.int y' :: .int x :: st) := fun H locs ls hP hS hl => lv_icmp_gt h.1 h.2.1 d ht (fun hc => kt hc H locs ls hP hS hl) (fun hc => kf hc H locs ls hP hS hl)
theorem pg_if_le {x : Int32} {off : Int} {tgt : Nat} (h : pg_X κ z y cc nL ret rm) (d : decode cc pc = .ok (.ifCond .le off, 3)) (ht : (pc : Int) + off = (tgt : Int)) (kt : x ≤ 0 → pg_G κ z nL ce sl Q Pic tgt lv st) (kf : ¬ x ≤ 0 → pg_G κ z nL ce sl Q Pic (pc + 3) lv st) : pg_G κ z nL ce sl Q Pic pc lv (.int x :: st) := fun H locs ls hP hS hl => lv_if_le h.1 h.2.1 d ht (fun hc => kt hc H locs ls hP hS hl) (fun hc => kf hc H locs ls hP hS hl)
theorem pg_icmp_le {x y' : Int32} {off : Int} {tgt : Nat} (h : pg_X κ z y cc nL ret rm) (d : decode cc pc = .ok (.if_icmp .le off, 3)) (ht : (pc : Int) + off = (tgt : Int)) (kt : x ≤ y' → pg_G κ z nL ce sl Q Pic tgt lv st) (kf : ¬ x ≤ y' → pg_G κ z nL ce sl Q Pic (pc + 3) lv st) : pg_G κ z nL ce sl Q Pic pc lv (.int y' :: .int x :: st) := fun H locs ls hP hS hl => lv_icmp_le h.1 h.2.1 d ht (fun hc => kt hc H locs ls hP hS hl) (fun hc => kf hc H locs ls hP hS hl)
theorem pg_goto {off : Int} {tgt : Nat} (h : pg_X κ z y cc nL ret rm) (d : decode cc pc = .ok (.goto off, 3)) (ht : (pc : Int) + off = (tgt : Int)) (k : pg_G κ z nL ce sl Q Pic tgt lv st) : pg_G κ z nL ce sl Q Pic pc lv st := fun H locs ls hP hS hl => lv_goto h.1 h.2.1 d ht (k H locs ls hP hS hl)
theorem pg_ifnull {x : Nat} {off : Int} (h : pg_X κ z y cc nL ret rm) (d : decode cc pc = .ok (.ifnull off, 3)) (k : pg_G κ z nL ce sl Q Pic (pc + 3) lv st) : pg_G κ z nL ce sl Q Pic pc lv (.ref x :: st) := fun H locs ls hP hS hl => lv_ifnull h.1 h.2.1 d (k H locs ls hP hS hl)
theorem pg_ifnonnull {x : Nat} {off : Int} {tgt : Nat} (h : pg_X κ z y cc nL ret rm) (d : decode cc pc = .ok (.ifnonnull off, 3)) (ht : (pc : Int) + off = (tgt : Int)) (k : pg_G κ z nL ce sl Q Pic tgt lv st) : pg_G κ z nL ce sl Q Pic pc lv (.ref x :: st) := fun H locs ls hP hS hl => lv_ifnonnull h.1 h.2.1 d ht (k H locs ls hP hS hl)
theorem pg_ifnullN  {off : Int} {tgt : Nat} (h : pg_X κ z y cc nL ret rm) (d : decode cc pc = .ok (.ifnull off, 3)) (ht : (pc : Int) + off = (tgt : Int)) (k : pg_G κ z nL ce sl Q Pic tgt lv st) : pg_G κ z nL ce sl Q Pic pc lv (.null :: st) := fun H locs ls hP hS hl => lv_ifnullN h.1 h.2.1 d ht (k H locs ls hP hS hl)
theorem pg_ifnonnullN  {off : Int} (h : pg_X κ z y cc nL ret rm) (d : decode cc pc = .ok (.ifnonnull off, 3)) (k : pg_G κ z nL ce sl Q Pic (pc + 3) lv st) : pg_G κ z nL ce sl Q Pic pc lv (.null :: st) := fun H locs ls hP hS hl => lv_ifnonnullN h.1 h.2.1 d (k H locs ls hP hS hl)
theorem pg_tableIn {dflt lo hi : Int} {offs : Array Int} {len : Nat} {x : Int32} {off : Int} {tgt : Nat} (h : pg_X κ z y cc nL ret rm) (d : decode cc pc = .ok (.tableswitch dflt lo hi offs, len)) (h1 : ¬ x.toInt < lo) (h2 : ¬ hi < x.toInt) (ho : offs[(x.toInt - lo).toNat]? = some off) (ht : (pc : Int) + off = (tgt : Int)) (k : pg_G κ z nL ce sl Q Pic tgt lv st) : pg_G κ z nL ce sl Q Pic pc lv (.int x :: st) := fun H locs ls hP hS hl => lv_tableIn h.1 h.2.1 d h1 h2 ho ht (k H locs ls hP hS hl)
theorem pg_tableOut {dflt lo hi : Int} {offs : Array Int} {len : Nat} {x : Int32} {tgt : Nat} (h : pg_X κ z y cc nL ret rm) (d : decode cc pc = .ok (.tableswitch dflt lo hi offs, len)) (h1 : x.toInt < lo ∨ hi < x.toInt) (ht : (pc : Int) + dflt = (tgt : Int)) (k : pg_G κ z nL ce sl Q Pic tgt lv st) : pg_G κ z nL ce sl Q Pic pc lv (.int x :: st) := fun H locs ls hP hS hl => lv_tableOut h.1 h.2.1 d h1 ht (k H locs ls hP hS hl)
theorem pg_lookup {dflt : Int} {ps : Array (Int × Int)} {len : Nat} {x : Int32} {off : Int} {tgt : Nat} (h : pg_X κ z y cc nL ret rm) (d : decode cc pc = .ok (.lookupswitch dflt ps, len)) (hp : (ps.toList.zip (ps.toList.drop 1)).all (fun (a, next) => a.1 < next.1) = true) (ho : Op.lookupswitch.offset ps.toList dflt x.toInt = off) (ht : (pc : Int) + off = (tgt : Int)) (k : pg_G κ z nL ce sl Q Pic tgt lv st) : pg_G κ z nL ce sl Q Pic pc lv (.int x :: st) := fun H locs ls hP hS hl => lv_lookup h.1 h.2.1 d hp ho ht (k H locs ls hP hS hl)
end PGROWS
/-- a picture: the cells at the addresses L hold what M says, and they lie at the base or above, apart -/
def pg_P (z : pg_Z) (L : List Nat) (M : Nat → va_E) (H : Heap) : Prop := va_P z.1 pg_cl (va_pl L M) H ∧ va_D (pg_A z) (va_pl L M)
/-- a class by its number in pg_cl -/
def pg_cf (ci : Nat) (C : String) (T : u_T) (N : Nat) (ty : Nat → FieldType) : Prop := pg_cl[ci]? = some (C, T, N) ∧ (∀ w ∈ u_ws C T N, w ∈ pg_ws) ∧ (∀ k, k < N → parseFieldDescriptor (T k).2.2.1 = some (ty k)) ∧ (∀ a, a < N → ∀ b, b < N → a ≠ b → (T a).2.1 ≠ (T b).2.1)
/-- a row of a pool that names a field -/
def pg_fl (own : String) (idx : Nat) (T : u_T) (k : Nat) : Prop := Cond.fieldLink own idx (T k).1 (T k).2.1 (T k).2.2.1 ∈ pg_ws ∨ ∃ host, (own, idx, (T k).1, (T k).2.1, (T k).2.2.1, host) ∈ pg_nf
/-- a row of a pool that names a method -/
def pg_ml (own : String) (idx : Nat) (y : MethodName) : Prop := Cond.methodLink own idx y ∈ pg_ws ∨ ∃ host, (own, idx, y, host) ∈ pg_nm
def pg_mi (y : MethodName) (cc : ByteArray) (nL : Nat) (ret : Option FieldType) (n : Nat) : Prop := Cond.code y cc nL ret ∈ pg_ws ∧ Cond.initialized y.cls ∈ pg_ws ∧ Cond.instanceMethod y ∈ pg_ws ∧ Cond.selects y.cls y y ∈ pg_ws ∧ (y.cls ≠ "java/lang/invoke/MethodHandle" ∧ y.cls ≠ "java/lang/invoke/VarHandle" ∧ (parseMethodDescriptor y.desc).map (fun d => d.parameters.length) = some n)
def pg_ms (y : MethodName) (cc : ByteArray) (nL : Nat) (ret : Option FieldType) (n : Nat) : Prop := Cond.code y cc nL ret ∈ pg_ws ∧ Cond.initialized y.cls ∈ pg_ws ∧ Cond.static y ∈ pg_ws ∧ (y.cls ≠ "java/lang/invoke/MethodHandle" ∧ y.cls ≠ "java/lang/invoke/VarHandle" ∧ (parseMethodDescriptor y.desc).map (fun d => d.parameters.length) = some n)
def pg_mc (y : MethodName) (cc : ByteArray) (nL : Nat) (n : Nat) : Prop := Cond.code y cc nL none ∈ pg_ws ∧ Cond.initialized y.cls ∈ pg_ws ∧ Cond.instanceMethod y ∈ pg_ws ∧ y.name = "<init>" ∧ (y.cls ≠ "java/lang/invoke/MethodHandle" ∧ y.cls ≠ "java/lang/invoke/VarHandle" ∧ (parseMethodDescriptor y.desc).map (fun d => d.parameters.length) = some n)
/-- an exact contract: the answer is r, the picture behind it Pic' -/
def pg_E (z : pg_Z) (y : MethodName) (cc : ByteArray) (nL : Nat) (ret : Option FieldType) (rm : Room) (as : List Value) (Pic : Heap → Prop) (r : Option Value) (Pic' : Heap → Prop) : Prop := pg_C z y cc nL ret rm as Pic (fun r' H => r' = r ∧ Pic' H)
section PGHEAP
variable {κ : pg_K} {z : pg_Z} {y : MethodName} {cc : ByteArray} {nL : Nat} {ret : Option FieldType} {rm : Room} {ce sl : Nat} {Q : State → Prop} {pc : Nat} {lv : List (Option Value)} {st : List Value} {L : List Nat} {M : Nat → va_E} {a : Nat}
theorem pg_get1 {ci k N idx : Nat} {C : String} {T : u_T} {ty : Nat → FieldType} {fs : List Value} {v : Value} (h : pg_X κ z y cc nL ret rm) (d : decode cc pc = .ok (.getfield idx, 3)) (hc : pg_cf ci C T N ty) (hf : pg_fl y.cls idx T k) (hk : k < N) (ha : a ∈ L) (hM : M a = .inr (ci, fs)) (hv : fs[k]? = some v)
    (kk : pg_G κ z nL ce sl Q (pg_P z L M) (pc + 3) lv (v :: st)) : pg_G κ z nL ce sl Q (pg_P z L M) pc lv (.ref a :: st) := fun H locs ls hP hS hl => by
  obtain ⟨q0, hq⟩ := va_pl_get (X := []) (f := M) ha
  rw [hM] at hq
  rcases hf with hf | ⟨host, hf⟩
  · exact va_get h.1 h.2.1 h.2.2.2.2.1 hc.2.1 h.2.2.2.1 h.2.2.2.2.2.1.1 hP.1 q0 hq hc.1 k hk (h.2.2.2.2.1 _ hf) (fun _ x => x) hv d (kk H locs ls hP hS hl)
  · exact va_getN (host := host) h.1 h.2.1 h.2.2.2.2.1 hc.2.1 h.2.2.2.1 h.2.2.2.2.2.1.1 hP.1 q0 hq hc.1 k hk (va_Nw.use rfl (h.2.2.2.2.2.1.2.1 _ hf)) (fun _ x => x) hv d (kk H locs ls hP hS hl)
theorem pg_put1 {ci k N idx : Nat} {C : String} {T : u_T} {ty : Nat → FieldType} {fs : List Value} {v : Value} (h : pg_X κ z y cc nL ret rm) (d : decode cc pc = .ok (.putfield idx, 3)) (hc : pg_cf ci C T N ty) (hf : pg_fl y.cls idx T k) (hk : k < N) (hfin : (T k).2.2.2 = false) (hn : narrow (ty k) v = v) (hfit : fits (ty k) v = true) (ha : a ∈ L) (hM : M a = .inr (ci, fs)) (hlen : k < fs.length)
    (kk : pg_G κ z nL ce sl Q (pg_P z L (va_up M a (.inr (ci, fs.set k v)))) (pc + 3) lv st) : pg_G κ z nL ce sl Q (pg_P z L M) pc lv (v :: .ref a :: st) := fun H locs ls hP hS hl => by
  obtain ⟨q0, hq0⟩ := va_pl_get (X := []) (f := M) ha
  have hq := hq0
  rw [hM] at hq
  have hset := va_pl_set (X := []) (e := .inr (ci, fs.set k v)) hP.2 ha hq0
  rcases hf with hf | ⟨host, hf⟩
  · refine va_put (ws := [] ++ va_pl L M) h.1 h.2.1 h.2.2.2.2.1 hc.2.1 ty hc.2.2.1 hc.2.2.2 h.2.2.2.1 h.2.2.2.2.2.1.1 hP.1 hP.2 hS q0 hq hc.1 k hk (h.2.2.2.2.1 _ hf) (fun _ x => x) hfin (hc.2.2.1 k hk) hn hfit hlen d (fun H1 locs1 hP1 hD1 hS1 => ?_)
    rw [hset] at hP1 hD1
    exact kk H1 locs1 ls ⟨hP1, hD1⟩ hS1 hl
  · refine va_putN (host := host) (ws := [] ++ va_pl L M) h.1 h.2.1 h.2.2.2.2.1 hc.2.1 ty hc.2.2.1 hc.2.2.2 h.2.2.2.1 h.2.2.2.2.2.1.1 hP.1 hP.2 hS q0 hq hc.1 k hk (va_Nw.use rfl (h.2.2.2.2.2.1.2.1 _ hf)) (fun _ x => x) hfin (hc.2.2.1 k hk) hn hfit hlen d (fun H1 locs1 hP1 hD1 hS1 => ?_)
    rw [hset] at hP1 hD1
    exact kk H1 locs1 ls ⟨hP1, hD1⟩ hS1 hl
theorem pg_putF1 {ci k N idx : Nat} {C : String} {T : u_T} {ty : Nat → FieldType} {fs : List Value} {v : Value} (h : pg_X κ z y cc nL ret rm) (d : decode cc pc = .ok (.putfield idx, 3)) (hc : pg_cf ci C T N ty) (hf : Cond.fieldLink y.cls idx (T k).1 (T k).2.1 (T k).2.2.1 ∈ pg_ws) (hk : k < N) (hfin : (T k).2.2.2 = true) (hin : y.name = "<init>") (hdecl : (T k).1 = y.cls) (hn : narrow (ty k) v = v) (hfit : fits (ty k) v = true) (ha : a ∈ L) (hM : M a = .inr (ci, fs)) (hlen : k < fs.length)
    (kk : pg_G κ z nL ce sl Q (pg_P z L (va_up M a (.inr (ci, fs.set k v)))) (pc + 3) lv st) : pg_G κ z nL ce sl Q (pg_P z L M) pc lv (v :: .ref a :: st) := fun H locs ls hP hS hl => by
  obtain ⟨q0, hq0⟩ := va_pl_get (X := []) (f := M) ha
  have hq := hq0
  rw [hM] at hq
  have hset := va_pl_set (X := []) (e := .inr (ci, fs.set k v)) hP.2 ha hq0
  refine va_putF (ws := [] ++ va_pl L M) h.1 h.2.1 h.2.2.2.2.1 hc.2.1 ty hc.2.2.1 hc.2.2.2 h.2.2.2.1 h.2.2.2.2.2.1.1 hP.1 hP.2 hS q0 hq hc.1 k hk (h.2.2.2.2.1 _ hf) (fun _ x => x) hfin (h.2.2.2.2.2.2.2.2.2.trans hin) hdecl (hc.2.2.1 k hk) hn hfit hlen d (fun H1 locs1 hP1 hD1 hS1 => ?_)
  rw [hset] at hP1 hD1
  exact kk H1 locs1 ls ⟨hP1, hD1⟩ hS1 hl
theorem pg_iald1 {n : Nat} {f : Nat → Int32} {i : Int32} (h : pg_X κ z y cc nL ret rm) (d : decode cc pc = .ok (.iaload, 1)) (ha : a ∈ L) (hM : M a = .inl (z.2.2 0, n, .inl f)) (hi : vp_in i n)
    (kk : pg_G κ z nL ce sl Q (pg_P z L M) (pc + 1) lv (.int (f i.toNatClampNeg) :: st)) : pg_G κ z nL ce sl Q (pg_P z L M) pc lv (.int i :: .ref a :: st) := fun H locs ls hP hS hl => by
  obtain ⟨q0, hq⟩ := va_pl_get (X := []) (f := M) ha
  rw [hM] at hq
  exact va_iald h.1 h.2.1 h.2.2.2.2.2.1.1 hP.1 q0 0 hq rfl hi d (kk H locs ls hP hS hl)
theorem pg_zald1 {n : Nat} {f : Nat → Int32} {i : Int32} (h : pg_X κ z y cc nL ret rm) (d : decode cc pc = .ok (.baload, 1)) (ha : a ∈ L) (hM : M a = .inl (z.2.2 1, n, .inl f)) (hi : vp_in i n)
    (kk : pg_G κ z nL ce sl Q (pg_P z L M) (pc + 1) lv (.int (f i.toNatClampNeg) :: st)) : pg_G κ z nL ce sl Q (pg_P z L M) pc lv (.int i :: .ref a :: st) := fun H locs ls hP hS hl => by
  obtain ⟨q0, hq⟩ := va_pl_get (X := []) (f := M) ha
  rw [hM] at hq
  exact va_zald h.1 h.2.1 h.2.2.2.2.2.1.1 hP.1 q0 1 hq rfl hi d (kk H locs ls hP hS hl)
theorem pg_aald1 {n : Nat} {f : Nat → Option Nat} {i : Int32} (h : pg_X κ z y cc nL ret rm) (d : decode cc pc = .ok (.aaload, 1)) (ha : a ∈ L) (hM : M a = .inl (z.2.2 2, n, .inr (.inr (.inr (.inr f))))) (hi : vp_in i n)
    (kk : pg_G κ z nL ce sl Q (pg_P z L M) (pc + 1) lv (va_rf (f i.toNatClampNeg) :: st)) : pg_G κ z nL ce sl Q (pg_P z L M) pc lv (.int i :: .ref a :: st) := fun H locs ls hP hS hl => by
  obtain ⟨q0, hq⟩ := va_pl_get (X := []) (f := M) ha
  rw [hM] at hq
  exact va_aldq h.1 h.2.1 h.2.2.2.2.2.1.1 hP.1 q0 2 hq rfl hi d (kk H locs ls hP hS hl)
theorem pg_alen1 {x : vp_A} {c : ClassId} {t0 : Nat} {ty : FieldType} {v : Int32} (h : pg_X κ z y cc nL ret rm) (d : decode cc pc = .ok (.arraylength, 1)) (ha : a ∈ L) (hM : M a = .inl (c, x)) (ht : (pg_ty z)[t0]? = some (c, ty)) (hv : Int32.ofNat x.1 = v)
    (kk : pg_G κ z nL ce sl Q (pg_P z L M) (pc + 1) lv (.int v :: st)) : pg_G κ z nL ce sl Q (pg_P z L M) pc lv (.ref a :: st) := fun H locs ls hP hS hl => by
  obtain ⟨q0, hq⟩ := va_pl_get (X := []) (f := M) ha
  rw [hM] at hq
  exact va_alen h.1 h.2.1 h.2.2.2.2.2.1.1 hP.1 q0 t0 hq ht hv d (kk H locs ls hP hS hl)
theorem pg_iast1 {n : Nat} {f : Nat → Int32} {i x : Int32} (h : pg_X κ z y cc nL ret rm) (d : decode cc pc = .ok (.iastore, 1)) (ha : a ∈ L) (hM : M a = .inl (z.2.2 0, n, .inl f)) (hi : vp_in i n)
    (kk : pg_G κ z nL ce sl Q (pg_P z L (va_up M a (.inl (z.2.2 0, n, .inl (upd f i.toNatClampNeg x))))) (pc + 1) lv st) : pg_G κ z nL ce sl Q (pg_P z L M) pc lv (.int x :: .int i :: .ref a :: st) := fun H locs ls hP hS hl => by
  obtain ⟨q0, hq0⟩ := va_pl_get (X := []) (f := M) ha
  have hq := hq0
  rw [hM] at hq
  have hset := va_pl_set (X := []) (e := .inl (z.2.2 0, n, .inl (upd f i.toNatClampNeg x))) hP.2 ha hq0
  refine va_iast (ws := [] ++ va_pl L M) h.1 h.2.1 h.2.2.2.2.2.1.1 hP.1 hP.2 hS q0 0 hq rfl hi d (fun H1 locs1 hP1 hD1 hS1 => ?_)
  rw [hset] at hP1 hD1
  exact kk H1 locs1 ls ⟨hP1, hD1⟩ hS1 hl
theorem pg_zast1 {n : Nat} {f : Nat → Int32} {i x : Int32} (h : pg_X κ z y cc nL ret rm) (d : decode cc pc = .ok (.bastore, 1)) (ha : a ∈ L) (hM : M a = .inl (z.2.2 1, n, .inl f)) (hi : vp_in i n) (hx : vp_nar .boolean x = x)
    (kk : pg_G κ z nL ce sl Q (pg_P z L (va_up M a (.inl (z.2.2 1, n, .inl (upd f i.toNatClampNeg x))))) (pc + 1) lv st) : pg_G κ z nL ce sl Q (pg_P z L M) pc lv (.int x :: .int i :: .ref a :: st) := fun H locs ls hP hS hl => by
  obtain ⟨q0, hq0⟩ := va_pl_get (X := []) (f := M) ha
  have hq := hq0
  rw [hM] at hq
  have hset := va_pl_set (X := []) (e := .inl (z.2.2 1, n, .inl (upd f i.toNatClampNeg x))) hP.2 ha hq0
  refine va_zast (ws := [] ++ va_pl L M) h.1 h.2.1 h.2.2.2.2.2.1.1 hP.1 hP.2 hS q0 1 hq rfl hi d (fun H1 locs1 hP1 hD1 hS1 => ?_)
  rw [hx, hset] at hP1 hD1
  exact kk H1 locs1 ls ⟨hP1, hD1⟩ hS1 hl
theorem pg_aast1 {n ci b : Nat} {fs : List Value} {T : u_T} {N : Nat} {f : Nat → Option Nat} {i : Int32} (h : pg_X κ z y cc nL ret rm) (d : decode cc pc = .ok (.aastore, 1)) (ha : a ∈ L) (hM : M a = .inl (z.2.2 2, n, .inr (.inr (.inr (.inr f))))) (hb : b ∈ L) (hMb : M b = .inr (ci, fs)) (hc : pg_cl[ci]? = some ("PageReceiver$Page", T, N)) (hi : vp_in i n)
    (kk : pg_G κ z nL ce sl Q (pg_P z L (va_up M a (.inl (z.2.2 2, n, .inr (.inr (.inr (.inr (va_up f i.toNatClampNeg (some b))))))))) (pc + 1) lv st) : pg_G κ z nL ce sl Q (pg_P z L M) pc lv (.ref b :: .int i :: .ref a :: st) := fun H locs ls hP hS hl => by
  obtain ⟨q0, hq0⟩ := va_pl_get (X := []) (f := M) ha
  have hq := hq0
  rw [hM] at hq
  obtain ⟨q1, hq1⟩ := va_pl_get (X := []) (f := M) hb
  rw [hMb] at hq1
  have hset := va_pl_set (X := []) (e := .inl (z.2.2 2, n, .inr (.inr (.inr (.inr (va_up f i.toNatClampNeg (some b))))))) hP.2 ha hq0
  refine va_astq (ws := [] ++ va_pl L M) (r := ("PageReceiver$Page", T, N)) h.1 h.2.1 h.2.2.2.2.2.1.1 hP.1 hP.2 hS q0 2 q1 ci hq rfl hq1 hc hi d (fun H1 locs1 hP1 hD1 hS1 => ?_)
  rw [hset] at hP1 hD1
  exact kk H1 locs1 ls ⟨hP1, hD1⟩ hS1 hl
/-- what is at the address of an object, for a call on it -/
theorem pg_recv1 {ci N : Nat} {C : String} {T : u_T} {ty : Nat → FieldType} {fs : List Value} {H : Heap} (h : pg_X κ z y cc nL ret rm) (hc : pg_cf ci C T N ty) (ha : a ∈ L) (hM : M a = .inr (ci, fs)) (hP : pg_P z L M H) : ∃ cell : Cell, H[a]? = some cell ∧ cell.vm.isStatics = false ∧ (pg_s κ).vm.findClass C = some cell.cls := by
  obtain ⟨q0, hq⟩ := va_pl_get (X := []) (f := M) ha
  rw [hM] at hq
  exact va_recv h.2.2.2.2.2.1.1 hP.1 hc.1 hq
end PGHEAP
section PGCALL
variable {κ : pg_K} {z : pg_Z} {y : MethodName} {cc : ByteArray} {nL : Nat} {ret : Option FieldType} {rm : Room} {ce sl : Nat} {Q : State → Prop} {pc : Nat} {lv : List (Option Value)} {st : List Value} {Pic : Heap → Prop}
variable {y2 : MethodName} {cc2 : ByteArray} {nL2 n idx : Nat} {ret2 : Option FieldType} {rm2 : Room} {b : Nat} {As rest : List Value} {Post2 : Option Value → Heap → Prop} {Pic2 : Heap → Prop} {v : Value}
theorem pg_gd (hc : Cond.code y2 cc2 nL2 ret2 ∈ pg_ws) : GoodIn pg_ws (Cond.code y2 cc2 nL2 ret2 :: pg_ws) := fun w hw => by
  rcases List.mem_cons.mp hw with rfl | hw
  · exact ⟨hc, pg_good _ hc⟩
  · exact ⟨hw, pg_good _ hw⟩
/-- behind a call: what va_Run says, in the words of the judgement -/
theorem pg_after {st0 : List Value} (hS0 : ∀ (H : Heap) (locs : List Loc) (ls : Array Slot), Pic H → va_S (pg_A z) (pg_s κ).heap H locs → ls.size = nL → va_Run κ.1 κ.2.1 κ.2.2.1 (pg_R κ) (pg_s κ) (pg_m κ) (pg_args κ) (pg_below κ) (pg_meth κ) (pg_c κ) H locs ce sl rm2.cells rm2.slots (F0 (pg_m κ) pc ls st0) rest (pg_Qc z Post2 As.toArray) (pg_A z))
    (kk : ∀ r, pg_G κ z nL (ce + rm2.cells) (sl + rm2.slots) Q (Post2 r) (pc + 3) lv (r.toList ++ rest)) : pg_G κ z nL ce sl Q Pic pc lv st0 := fun H locs ls hP hS hl => by
  intro T hT X
  obtain ⟨w, st₀, t, T', L, h0, X', hL, e1, e2, ⟨⟨r, hr, hpost⟩, hz, hk⟩, stp⟩ := hS0 H locs ls hP hS hl.1 T hT X
  cases hr
  rw [h0] at hz hk
  obtain ⟨t2, a1, b1⟩ := kk w T'.heap (locs ++ L) ls (by rw [e1]; exact hpost)
    ⟨Nat.le_trans hS.1 (by rw [e1]; exact hz), fun q h1 h2 => by rw [e1, hk q (Nat.lt_of_lt_of_le h1 hS.1) h2]; exact hS.2.1 q h1 h2, fun q hq => by
      rcases List.mem_append.mp hq with h | h
      · exact hS.2.2 q h
      · exact hL q h⟩ hl T' rfl X'
  exact ⟨t2, stp t2 a1, b1⟩
theorem pg_callV (h : pg_X κ z y cc nL ret rm) (d : decode cc pc = .ok (.invokevirtual idx, 3)) (hm : pg_mi y2 cc2 nL2 ret2 n) (hl : pg_ml y.cls idx y2) (hC : pg_C z y2 cc2 nL2 ret2 rm2 (.ref b :: As) Pic Post2)
    (hrecv : ∀ H, Pic H → ∃ cell : Cell, H[b]? = some cell ∧ cell.vm.isStatics = false ∧ (pg_s κ).vm.findClass y2.cls = some cell.cls) (hn : As.length = n) (hst : st = As.reverse ++ .ref b :: rest) (hcat : (rest.map fun v => v.category).sum ≤ 8)
    (hroom : rm2.frames + 1 ≤ rm.frames ∧ 8 + (nL2 + 11) + rm2.locals ≤ rm.locals) (hcell : ce + rm2.cells ≤ rm.cells ∧ sl + rm2.slots ≤ rm.slots)
    (kk : ∀ r, pg_G κ z nL (ce + rm2.cells) (sl + rm2.slots) Q (Post2 r) (pc + 3) lv (r.toList ++ rest)) : pg_G κ z nL ce sl Q Pic pc lv st := by
  refine pg_after (As := .ref b :: As) (fun H locs ls hP hS hsz => ?_) kk
  obtain ⟨m1, m2, m3, m4, m5⟩ := hm
  have hts := h.2.2.2.2.1
  have hp : PreV (pg_s κ) H y2.cls b (pg_Pc z (.ref b :: As) Pic) As := ⟨pg_Pc.blind, hrecv H hP, fun U hU hW => ⟨rfl, h.2.2.2.2.2.1.at hW hS hU, by rw [hU]; exact hP⟩⟩
  have hR : rm2.frames + 1 ≤ (pg_R κ).frames ∧ 8 + (nL2 + 11) + rm2.locals ≤ (pg_R κ).locals := by rw [h.2.2.2.2.2.2.1]; exact hroom
  have hf : ce + rm2.cells ≤ (pg_R κ).cells ∧ sl + rm2.slots ≤ (pg_R κ).slots := by rw [h.2.2.2.2.2.2.1]; exact hcell
  rcases hl with hl | ⟨host, hl⟩
  · exact va_runV (rest := rest) ⟨h.1, h.2.1, h.2.2.1, h.2.2.2.1, hts⟩ (hC κ.2.1) ⟨callB_of n hts (pg_gd m1) rfl rfl rfl (hts _ m2) (hts _ hl) m5 hR, hts _ m3, hts _ m4⟩ hp rfl hn hsz hst (lv_room hcat) d hf
  · exact va_runVN (rest := rest) (host := host) ⟨h.1, h.2.1, h.2.2.1, h.2.2.2.1, hts⟩ (hC κ.2.1) ⟨va_cnB n hts (pg_gd m1) rfl rfl rfl (h.2.2.2.2.2.1.2.2.1 _ hl) (hts _ m2) m5 hR, hts _ m3, hts _ m4⟩ hp rfl hn hsz hst (lv_room hcat) d hf
theorem pg_callS (h : pg_X κ z y cc nL ret rm) (d : decode cc pc = .ok (.invokestatic idx, 3)) (hm : pg_ms y2 cc2 nL2 ret2 n) (hl : pg_ml y.cls idx y2) (hC : pg_C z y2 cc2 nL2 ret2 rm2 As Pic Post2)
    (hn : As.length = n) (hst : st = As.reverse ++ rest) (hcat : (rest.map fun v => v.category).sum ≤ 8)
    (hroom : rm2.frames + 1 ≤ rm.frames ∧ 8 + (nL2 + 11) + rm2.locals ≤ rm.locals) (hcell : ce + rm2.cells ≤ rm.cells ∧ sl + rm2.slots ≤ rm.slots)
    (kk : ∀ r, pg_G κ z nL (ce + rm2.cells) (sl + rm2.slots) Q (Post2 r) (pc + 3) lv (r.toList ++ rest)) : pg_G κ z nL ce sl Q Pic pc lv st := by
  refine pg_after (As := As) (fun H locs ls hP hS hsz => ?_) kk
  obtain ⟨m1, m2, m3, m5⟩ := hm
  have hts := h.2.2.2.2.1
  have hp : PreS (pg_s κ) H (pg_Pc z As Pic) As := ⟨pg_Pc.blind, fun U hU hW => ⟨rfl, h.2.2.2.2.2.1.at hW hS hU, by rw [hU]; exact hP⟩⟩
  have hR : rm2.frames + 1 ≤ (pg_R κ).frames ∧ 8 + (nL2 + 11) + rm2.locals ≤ (pg_R κ).locals := by rw [h.2.2.2.2.2.2.1]; exact hroom
  have hf : ce + rm2.cells ≤ (pg_R κ).cells ∧ sl + rm2.slots ≤ (pg_R κ).slots := by rw [h.2.2.2.2.2.2.1]; exact hcell
  rcases hl with hl | ⟨host, hl⟩
  · exact va_runS (rest := rest) ⟨h.1, h.2.1, h.2.2.1, h.2.2.2.1, hts⟩ (hC κ.2.1) ⟨callB_of n hts (pg_gd m1) rfl rfl rfl (hts _ m2) (hts _ hl) m5 hR, hts _ m3⟩ hp rfl hn hsz hst (lv_room hcat) d hf
  · exact va_runSN (rest := rest) (host := host) ⟨h.1, h.2.1, h.2.2.1, h.2.2.2.1, hts⟩ (hC κ.2.1) ⟨va_cnB n hts (pg_gd m1) rfl rfl rfl (h.2.2.2.2.2.1.2.2.1 _ hl) (hts _ m2) m5 hR, hts _ m3, trivial⟩ hp rfl hn hsz hst (lv_room hcat) d hf
theorem pg_callI (h : pg_X κ z y cc nL ret rm) (d : decode cc pc = .ok (.invokespecial idx, 3)) (hm : pg_mc y2 cc2 nL2 n) (hl : pg_ml y.cls idx y2) (hC : pg_C z y2 cc2 nL2 none rm2 (.ref b :: As) Pic Post2)
    (hn : As.length = n) (hst : st = As.reverse ++ .ref b :: rest) (hcat : (rest.map fun v => v.category).sum ≤ 8)
    (hroom : rm2.frames + 1 ≤ rm.frames ∧ 8 + (nL2 + 11) + rm2.locals ≤ rm.locals) (hcell : ce + rm2.cells ≤ rm.cells ∧ sl + rm2.slots ≤ rm.slots)
    (kk : ∀ r, pg_G κ z nL (ce + rm2.cells) (sl + rm2.slots) Q (Post2 r) (pc + 3) lv (r.toList ++ rest)) : pg_G κ z nL ce sl Q Pic pc lv st := by
  refine pg_after (As := .ref b :: As) (fun H locs ls hP hS hsz => ?_) kk
  obtain ⟨m1, m2, m3, m4, m5⟩ := hm
  have hts := h.2.2.2.2.1
  have hp : PreS (pg_s κ) H (pg_Pc z (.ref b :: As) Pic) (.ref b :: As) := ⟨pg_Pc.blind, fun U hU hW => ⟨rfl, h.2.2.2.2.2.1.at hW hS hU, by rw [hU]; exact hP⟩⟩
  have hR : rm2.frames + 1 ≤ (pg_R κ).frames ∧ 8 + (nL2 + 11) + rm2.locals ≤ (pg_R κ).locals := by rw [h.2.2.2.2.2.2.1]; exact hroom
  have hf : ce + rm2.cells ≤ (pg_R κ).cells ∧ sl + rm2.slots ≤ (pg_R κ).slots := by rw [h.2.2.2.2.2.2.1]; exact hcell
  rcases hl with hl | ⟨host, hl⟩
  · exact va_runI (rest := rest) ⟨h.1, h.2.1, h.2.2.1, h.2.2.2.1, hts⟩ (hC κ.2.1) ⟨callB_of n hts (pg_gd m1) rfl rfl rfl (hts _ m2) (hts _ hl) m5 hR, m4, hts _ m3⟩ hp rfl hn hsz hst (lv_room hcat) d hf
  · exact va_runIN (rest := rest) (host := host) ⟨h.1, h.2.1, h.2.2.1, h.2.2.2.1, hts⟩ (hC κ.2.1) ⟨va_cnB n hts (pg_gd m1) rfl rfl rfl (h.2.2.2.2.2.1.2.2.1 _ hl) (hts _ m2) m5 hR, m4, hts _ m3⟩ hp rfl hn hsz hst (lv_room hcat) d hf
/-- exact calls that make no cells: a value, nothing -/
theorem pg_cV {d2 lo2 : Nat} (h : pg_X κ z y cc nL ret rm) (d : decode cc pc = .ok (.invokevirtual idx, 3)) (hm : pg_mi y2 cc2 nL2 ret2 n) (hl : pg_ml y.cls idx y2) (hC : pg_E z y2 cc2 nL2 ret2 ⟨d2, 0, 0, lo2⟩ (.ref b :: As) Pic (some v) Pic2)
    (hrecv : ∀ H, Pic H → ∃ cell : Cell, H[b]? = some cell ∧ cell.vm.isStatics = false ∧ (pg_s κ).vm.findClass y2.cls = some cell.cls) (hn : As.length = n) (hst : st = As.reverse ++ .ref b :: rest) (hcat : (rest.map fun v => v.category).sum ≤ 8)
    (hroom : d2 + 1 ≤ rm.frames ∧ 8 + (nL2 + 11) + lo2 ≤ rm.locals) (hcell : ce ≤ rm.cells ∧ sl ≤ rm.slots)
    (kk : pg_G κ z nL ce sl Q Pic2 (pc + 3) lv (v :: rest)) : pg_G κ z nL ce sl Q Pic pc lv st :=
  pg_callV h d hm hl hC hrecv hn hst hcat hroom hcell (fun _ => pg_an (fun e => by subst e; exact kk))
theorem pg_cV0 {d2 lo2 : Nat} (h : pg_X κ z y cc nL ret rm) (d : decode cc pc = .ok (.invokevirtual idx, 3)) (hm : pg_mi y2 cc2 nL2 ret2 n) (hl : pg_ml y.cls idx y2) (hC : pg_E z y2 cc2 nL2 ret2 ⟨d2, 0, 0, lo2⟩ (.ref b :: As) Pic none Pic2)
    (hrecv : ∀ H, Pic H → ∃ cell : Cell, H[b]? = some cell ∧ cell.vm.isStatics = false ∧ (pg_s κ).vm.findClass y2.cls = some cell.cls) (hn : As.length = n) (hst : st = As.reverse ++ .ref b :: rest) (hcat : (rest.map fun v => v.category).sum ≤ 8)
    (hroom : d2 + 1 ≤ rm.frames ∧ 8 + (nL2 + 11) + lo2 ≤ rm.locals) (hcell : ce ≤ rm.cells ∧ sl ≤ rm.slots)
    (kk : pg_G κ z nL ce sl Q Pic2 (pc + 3) lv rest) : pg_G κ z nL ce sl Q Pic pc lv st :=
  pg_callV h d hm hl hC hrecv hn hst hcat hroom hcell (fun _ => pg_an (fun e => by subst e; exact kk))
theorem pg_cS {d2 lo2 : Nat} (h : pg_X κ z y cc nL ret rm) (d : decode cc pc = .ok (.invokestatic idx, 3)) (hm : pg_ms y2 cc2 nL2 ret2 n) (hl : pg_ml y.cls idx y2) (hC : pg_E z y2 cc2 nL2 ret2 ⟨d2, 0, 0, lo2⟩ As Pic (some v) Pic2)
    (hn : As.length = n) (hst : st = As.reverse ++ rest) (hcat : (rest.map fun v => v.category).sum ≤ 8)
    (hroom : d2 + 1 ≤ rm.frames ∧ 8 + (nL2 + 11) + lo2 ≤ rm.locals) (hcell : ce ≤ rm.cells ∧ sl ≤ rm.slots)
    (kk : pg_G κ z nL ce sl Q Pic2 (pc + 3) lv (v :: rest)) : pg_G κ z nL ce sl Q Pic pc lv st :=
  pg_callS h d hm hl hC hn hst hcat hroom hcell (fun _ => pg_an (fun e => by subst e; exact kk))
theorem pg_cS0 {d2 lo2 : Nat} (h : pg_X κ z y cc nL ret rm) (d : decode cc pc = .ok (.invokestatic idx, 3)) (hm : pg_ms y2 cc2 nL2 ret2 n) (hl : pg_ml y.cls idx y2) (hC : pg_E z y2 cc2 nL2 ret2 ⟨d2, 0, 0, lo2⟩ As Pic none Pic2)
    (hn : As.length = n) (hst : st = As.reverse ++ rest) (hcat : (rest.map fun v => v.category).sum ≤ 8)
    (hroom : d2 + 1 ≤ rm.frames ∧ 8 + (nL2 + 11) + lo2 ≤ rm.locals) (hcell : ce ≤ rm.cells ∧ sl ≤ rm.slots)
    (kk : pg_G κ z nL ce sl Q Pic2 (pc + 3) lv rest) : pg_G κ z nL ce sl Q Pic pc lv st :=
  pg_callS h d hm hl hC hn hst hcat hroom hcell (fun _ => pg_an (fun e => by subst e; exact kk))
end PGCALL
end
section
/-! The flat memory: every int and boolean that the object graphs of class and reference hold, by kind of cell, number of the cell within its kind, place in it. The graph itself never changes once it is built. -/
abbrev pf_S : Type := Nat → Nat → Nat → Int32
/-- world: class numbers and base; the address of each cell; how many places; all addresses -/
abbrev pf_W : Type := pg_Z × (Nat → Nat → Nat) × Nat × List Nat
/-- a boolean as its cell holds it -/
def nb (x : Int32) : Int32 := if x = 0 then 0 else 1
theorem nb_0 : nb 0 = 0 := rfl
theorem nb_1 : nb 1 = 1 := rfl
theorem nb_eq0 (x : Int32) : nb x = 0 ↔ x = 0 := by
  unfold nb
  split
  · simp [*]
  · simp [*]
theorem nb_narrow (x : Int32) : narrow .boolean (.int (nb x)) = .int (nb x) := by
  unfold nb
  split <;> rfl
theorem nb_fits (x : Int32) : fits .boolean (.int (nb x)) = true := by
  unfold nb
  split <;> rfl
theorem nb_nar (x : Int32) : vp_nar .boolean (nb x) = nb x := by
  unfold nb
  split <;> rfl
/-- what a cell holds, by its kind, its number within the kind and its row g of the flat memory -/
def pf_E (w : pf_W) (g : Nat → Int32) (kd ix : Nat) : va_E := match kd with
  | 0 => .inr (0, [.ref (w.2.1 1 0), .ref (w.2.1 2 0), .ref (w.2.1 4 0), .ref (w.2.1 6 0), .ref (w.2.1 8 0), .ref (w.2.1 12 0)])
  | 1 => .inl (w.1.2.2 0, 6, .inl g)
  | 2 => .inr (1, [.ref (w.2.1 3 0), .ref (w.2.1 1 0), .int (g 2)])
  | 3 => .inl (w.1.2.2 0, 22, .inl g)
  | 4 => .inr (3, [.ref (w.2.1 5 0), .ref (w.2.1 1 0)])
  | 5 => .inl (w.1.2.2 2, w.2.2.1, .inr (.inr (.inr (.inr (fun j => some (w.2.1 14 (8 + j)))))))
  | 6 => .inr (4, [.ref (w.2.1 4 0), .ref (w.2.1 14 12), .int (g 2), .int (g 3), .int (g 4), .int (g 5), .int (nb (g 6))])
  | 8 => .inr (5, [.ref (w.2.1 2 0), .ref (w.2.1 4 0), .ref (w.2.1 6 0), .ref (w.2.1 1 0), .ref (w.2.1 9 0), .ref (w.2.1 10 0), .ref (w.2.1 11 0)])
  | 9 => .inl (w.1.2.2 2, 8, .inr (.inr (.inr (.inr (fun j => some (w.2.1 14 j))))))
  | 10 => .inl (w.1.2.2 0, 20, .inl g)
  | 11 => .inl (w.1.2.2 0, 6, .inl g)
  | 12 => .inr (7, [.ref (w.2.1 6 0), .ref (w.2.1 10 0), .ref (w.2.1 13 0), .int (nb (g 3)), .int (g 4), .int (g 5), .int (g 6), .int (g 7)])
  | 13 => .inr (6, [.int (g 0), .int (g 1), .int (nb (g 2)), .int (nb (g 3)), .int (nb (g 4)), .int (nb (g 5)), .int (nb (g 6)), .int (nb (g 7)), .int (nb (g 8)), .int (g 9), .int (nb (g 10))])
  | 14 => .inr (2, [.int (nb (g 0)), .int (g 1), .int (g 2), .int (g 3), .int (g 4), .ref (w.2.1 15 ix), .ref (w.2.1 16 ix), .ref (w.2.1 17 ix)])
  | 15 => .inl (w.1.2.2 0, 160, .inl g)
  | 16 => .inl (w.1.2.2 0, 160, .inl g)
  | 17 => .inl (w.1.2.2 0, 4, .inl g)
  | 20 => .inr (8, [.int (g 0), .ref (w.2.1 21 0), .ref (w.2.1 22 0), .ref (w.2.1 23 0), .ref (w.2.1 24 0), .ref (w.2.1 25 0), .ref (w.2.1 26 0), .ref (w.2.1 27 0), .ref (w.2.1 28 0), .ref (w.2.1 29 0), .ref (w.2.1 30 0), .int (g 11), .ref (w.2.1 31 0), .int (g 13), .int (g 14), .int (g 15), .int (g 16), .int (nb (g 17)), .int (nb (g 18)), .ref (w.2.1 32 0), .ref (w.2.1 33 0), .ref (w.2.1 34 0), .ref (w.2.1 35 0), .ref (w.2.1 36 0), .ref (w.2.1 37 0), .int (g 25), .int (g 26), .int (nb (g 27)), .int (nb (g 28)), .int (nb (g 29)), .int (nb (g 30)), .int (nb (g 31)), .int (nb (g 32)), .int (nb (g 33)), .int (nb (g 34)), .int (g 35), .int (nb (g 36))])
  | 21 => .inl (w.1.2.2 1, 13, .inl (fun q => nb (g q)))
  | 22 => .inl (w.1.2.2 0, 13, .inl g)
  | 23 => .inl (w.1.2.2 0, 13, .inl g)
  | 24 => .inl (w.1.2.2 0, 13, .inl g)
  | 25 => .inl (w.1.2.2 0, 13, .inl g)
  | 26 => .inl (w.1.2.2 0, 52, .inl g)
  | 27 => .inl (w.1.2.2 0, 2080, .inl g)
  | 28 => .inl (w.1.2.2 0, 2080, .inl g)
  | 29 => .inl (w.1.2.2 0, 20, .inl g)
  | 30 => .inl (w.1.2.2 0, 22, .inl g)
  | 31 => .inl (w.1.2.2 0, 6, .inl g)
  | 32 => .inl (w.1.2.2 0, 20, .inl g)
  | 33 => .inl (w.1.2.2 0, 20, .inl g)
  | 34 => .inl (w.1.2.2 0, 20, .inl g)
  | 35 => .inl (w.1.2.2 0, 20, .inl g)
  | 36 => .inl (w.1.2.2 0, 20, .inl g)
  | 37 => .inl (w.1.2.2 0, 20, .inl g)
  | _ => .inr (0, [])
/-- which cells there are, with P places -/
def pf_dm (P kd ix : Nat) : Bool := match kd with
  | 0 => decide (ix = 0)
  | 1 => decide (ix = 0)
  | 2 => decide (ix = 0)
  | 3 => decide (ix = 0)
  | 4 => decide (ix = 0)
  | 5 => decide (ix = 0)
  | 6 => decide (ix = 0)
  | 8 => decide (ix = 0)
  | 9 => decide (ix = 0)
  | 10 => decide (ix = 0)
  | 11 => decide (ix = 0)
  | 12 => decide (ix = 0)
  | 13 => decide (ix = 0)
  | 14 => decide (ix < 8 + P) || decide (ix = 12)
  | 15 => decide (ix < 8 + P) || decide (ix = 12)
  | 16 => decide (ix < 8 + P) || decide (ix = 12)
  | 17 => decide (ix < 8 + P) || decide (ix = 12)
  | 20 => decide (ix = 0)
  | 21 => decide (ix = 0)
  | 22 => decide (ix = 0)
  | 23 => decide (ix = 0)
  | 24 => decide (ix = 0)
  | 25 => decide (ix = 0)
  | 26 => decide (ix = 0)
  | 27 => decide (ix = 0)
  | 28 => decide (ix = 0)
  | 29 => decide (ix = 0)
  | 30 => decide (ix = 0)
  | 31 => decide (ix = 0)
  | 32 => decide (ix = 0)
  | 33 => decide (ix = 0)
  | 34 => decide (ix = 0)
  | 35 => decide (ix = 0)
  | 36 => decide (ix = 0)
  | 37 => decide (ix = 0)
  | _ => false
/-- one number is written -/
def pf_st (S : pf_S) (kd ix k : Nat) (v : Int32) : pf_S := fun a b => if a = kd ∧ b = ix then upd (S kd ix) k v else S a b
/-- a whole row is written -/
def pf_rw (S : pf_S) (kd ix : Nat) (g : Nat → Int32) : pf_S := fun a b => if a = kd ∧ b = ix then g else S a b
theorem pf_st_rw (S : pf_S) (kd ix k : Nat) (v : Int32) : pf_st S kd ix k v = pf_rw S kd ix (upd (S kd ix) k v) := rfl
theorem pf_rw_at (S : pf_S) (kd ix : Nat) (g : Nat → Int32) : pf_rw S kd ix g kd ix = g := by simp [pf_rw]
theorem pf_rw_ne (S : pf_S) {kd ix a b : Nat} (g : Nat → Int32) (h : ¬ (a = kd ∧ b = ix)) : pf_rw S kd ix g a b = S a b := by simp [pf_rw, h]
/-- the picture of the flat memory S -/
def pf_M (w : pf_W) (S : pf_S) (M : Nat → va_E) : Prop := ∀ kd ix, pf_dm w.2.2.1 kd ix = true → M (w.2.1 kd ix) = pf_E w (S kd ix) kd ix
def pf_P (w : pf_W) (S : pf_S) (H : Heap) : Prop := ∃ M, pf_M w S M ∧ pg_P w.1 w.2.2.2 M H
def pf_ok (w : pf_W) : Prop := ∀ kd ix, pf_dm w.2.2.1 kd ix = true → w.2.1 kd ix ∈ w.2.2.2 ∧ ∀ kd' ix', pf_dm w.2.2.1 kd' ix' = true → w.2.1 kd ix = w.2.1 kd' ix' → kd = kd' ∧ ix = ix'
theorem pf_M.up {w : pf_W} {S : pf_S} {M : Nat → va_E} {kd ix : Nat} {g : Nat → Int32} {e : va_E} (ok : pf_ok w) (hM : pf_M w S M) (hd : pf_dm w.2.2.1 kd ix = true) (he : pf_E w g kd ix = e) : pf_M w (pf_rw S kd ix g) (va_up M (w.2.1 kd ix) e) := fun a b hab => by
  by_cases h : a = kd ∧ b = ix
  · obtain ⟨rfl, rfl⟩ := h
    rw [va_up_self, pf_rw_at, he]
  · rw [pf_rw_ne _ _ h, va_up_ne _ _ (fun q => h ((ok a b hab).2 kd ix hd q))]
    exact hM a b hab
/-- a place of a pool names field k of class number ci -/
def pg_fs (own : String) (idx ci k : Nat) : Prop := ∃ (C : String) (T : u_T) (N : Nat) (ty : Nat → FieldType), pg_cf ci C T N ty ∧ pg_fl own idx T k ∧ k < N
/-- .. and it may be written, a value of type t -/
def pg_fw (own : String) (idx ci k : Nat) (t : FieldType) : Prop := ∃ (C : String) (T : u_T) (N : Nat) (ty : Nat → FieldType), pg_cf ci C T N ty ∧ pg_fl own idx T k ∧ k < N ∧ (T k).2.2.2 = false ∧ ty k = t
/-- class number ci has the name C -/
def pg_cn (ci : Nat) (C : String) : Prop := ∃ (T : u_T) (N : Nat) (ty : Nat → FieldType), pg_cf ci C T N ty
/-- an index in range, and which -/
def pg_ix (i : Int32) (n j : Nat) : Prop := vp_in i n ∧ i.toNatClampNeg = j
theorem pg_ixN {i : Int32} {n j : Nat} (e : i = nI j) (h : j < n) (hn : n < 2 ^ 31) : pg_ix i n j := by
  subst e
  exact ⟨vp_in_nI h hn, nI_clamp (by omega)⟩
section PFLAT
variable {κ : pg_K} {w : pf_W} {y : MethodName} {cc : ByteArray} {nL : Nat} {ret : Option FieldType} {rm : Room} {ce sl : Nat} {Q : State → Prop} {pc : Nat} {lv : List (Option Value)} {st : List Value} {S : pf_S} {kd ix : Nat}
theorem pf_in (k : ∀ M, pf_M w S M → pg_G κ w.1 nL ce sl Q (pg_P w.1 w.2.2.2 M) pc lv st) : pg_G κ w.1 nL ce sl Q (pf_P w S) pc lv st := pg_ex (fun M => pg_an (k M))
theorem pf_out {M : Nat → va_E} (hM : pf_M w S M) (k : pg_G κ w.1 nL ce sl Q (pf_P w S) pc lv st) : pg_G κ w.1 nL ce sl Q (pg_P w.1 w.2.2.2 M) pc lv st := pg_wk (fun _ hP => ⟨M, hM, hP⟩) k
theorem pf_get {ci k idx : Nat} {fs : List Value} {v : Value} (h : pg_X κ w.1 y cc nL ret rm) (ok : pf_ok w) (d : decode cc pc = .ok (.getfield idx, 3)) (hf : pg_fs y.cls idx ci k) (hd : pf_dm w.2.2.1 kd ix = true) (he : pf_E w (S kd ix) kd ix = .inr (ci, fs)) (hv : fs[k]? = some v)
    (kk : pg_G κ w.1 nL ce sl Q (pf_P w S) (pc + 3) lv (v :: st)) : pg_G κ w.1 nL ce sl Q (pf_P w S) pc lv (.ref (w.2.1 kd ix) :: st) := by
  obtain ⟨C, T, N, ty, hc, hl, hk⟩ := hf
  exact pf_in (fun M hM => pg_get1 h d hc hl hk (ok kd ix hd).1 ((hM kd ix hd).trans he) hv (pf_out hM kk))
theorem pf_put {ci k idx : Nat} {fs : List Value} {v : Int32} {x : Int32} {t : FieldType} (h : pg_X κ w.1 y cc nL ret rm) (ok : pf_ok w) (d : decode cc pc = .ok (.putfield idx, 3)) (hf : pg_fw y.cls idx ci k t) (hd : pf_dm w.2.2.1 kd ix = true) (he : pf_E w (S kd ix) kd ix = .inr (ci, fs)) (hn : narrow t (.int v) = .int v) (hfit : fits t (.int v) = true) (hlen : k < fs.length) (he2 : pf_E w (upd (S kd ix) k x) kd ix = .inr (ci, fs.set k (.int v)))
    (kk : pg_G κ w.1 nL ce sl Q (pf_P w (pf_st S kd ix k x)) (pc + 3) lv st) : pg_G κ w.1 nL ce sl Q (pf_P w S) pc lv (.int v :: .ref (w.2.1 kd ix) :: st) := by
  obtain ⟨C, T, N, ty, hc, hl, hk, hfin, rfl⟩ := hf
  exact pf_in (fun M hM => pg_put1 h d hc hl hk hfin hn hfit (ok kd ix hd).1 ((hM kd ix hd).trans he) hlen (pf_out (hM.up ok hd he2) kk))
theorem pf_puti {ci k idx : Nat} {fs : List Value} {v : Int32} (h : pg_X κ w.1 y cc nL ret rm) (ok : pf_ok w) (d : decode cc pc = .ok (.putfield idx, 3)) (hf : pg_fw y.cls idx ci k .int) (hd : pf_dm w.2.2.1 kd ix = true) (he : pf_E w (S kd ix) kd ix = .inr (ci, fs)) (hlen : k < fs.length) (he2 : pf_E w (upd (S kd ix) k v) kd ix = .inr (ci, fs.set k (.int v)))
    (kk : pg_G κ w.1 nL ce sl Q (pf_P w (pf_st S kd ix k v)) (pc + 3) lv st) : pg_G κ w.1 nL ce sl Q (pf_P w S) pc lv (.int v :: .ref (w.2.1 kd ix) :: st) := pf_put h ok d hf hd he rfl rfl hlen he2 kk
theorem pf_putz {ci k idx : Nat} {fs : List Value} (x : Int32) (h : pg_X κ w.1 y cc nL ret rm) (ok : pf_ok w) (d : decode cc pc = .ok (.putfield idx, 3)) (hf : pg_fw y.cls idx ci k .boolean) (hd : pf_dm w.2.2.1 kd ix = true) (he : pf_E w (S kd ix) kd ix = .inr (ci, fs)) (hlen : k < fs.length) (he2 : pf_E w (upd (S kd ix) k x) kd ix = .inr (ci, fs.set k (.int (nb x))))
    (kk : pg_G κ w.1 nL ce sl Q (pf_P w (pf_st S kd ix k x)) (pc + 3) lv st) : pg_G κ w.1 nL ce sl Q (pf_P w S) pc lv (.int (nb x) :: .ref (w.2.1 kd ix) :: st) := pf_put h ok d hf hd he (nb_narrow x) (nb_fits x) hlen he2 kk
theorem pf_ild {n j : Nat} {i : Int32} (h : pg_X κ w.1 y cc nL ret rm) (ok : pf_ok w) (d : decode cc pc = .ok (.iaload, 1)) (hd : pf_dm w.2.2.1 kd ix = true) (he : pf_E w (S kd ix) kd ix = .inl (w.1.2.2 0, n, .inl (S kd ix))) (hi : pg_ix i n j)
    (kk : pg_G κ w.1 nL ce sl Q (pf_P w S) (pc + 1) lv (.int (S kd ix j) :: st)) : pg_G κ w.1 nL ce sl Q (pf_P w S) pc lv (.int i :: .ref (w.2.1 kd ix) :: st) :=
  pf_in (fun M hM => pg_iald1 h d (ok kd ix hd).1 ((hM kd ix hd).trans he) hi.1 (by rw [hi.2]; exact pf_out hM kk))
theorem pf_ist {n j : Nat} {i x : Int32} (h : pg_X κ w.1 y cc nL ret rm) (ok : pf_ok w) (d : decode cc pc = .ok (.iastore, 1)) (hd : pf_dm w.2.2.1 kd ix = true) (he : ∀ g : Nat → Int32, pf_E w g kd ix = .inl (w.1.2.2 0, n, .inl g)) (hi : pg_ix i n j)
    (kk : pg_G κ w.1 nL ce sl Q (pf_P w (pf_st S kd ix j x)) (pc + 1) lv st) : pg_G κ w.1 nL ce sl Q (pf_P w S) pc lv (.int x :: .int i :: .ref (w.2.1 kd ix) :: st) :=
  pf_in (fun M hM => pg_iast1 h d (ok kd ix hd).1 ((hM kd ix hd).trans (he _)) hi.1 (by rw [hi.2]; exact pf_out (hM.up ok hd (he _)) kk))
theorem pf_zld {n j : Nat} {i : Int32} (h : pg_X κ w.1 y cc nL ret rm) (ok : pf_ok w) (d : decode cc pc = .ok (.baload, 1)) (hd : pf_dm w.2.2.1 kd ix = true) (he : pf_E w (S kd ix) kd ix = .inl (w.1.2.2 1, n, .inl (fun q => nb (S kd ix q)))) (hi : pg_ix i n j)
    (kk : pg_G κ w.1 nL ce sl Q (pf_P w S) (pc + 1) lv (.int (nb (S kd ix j)) :: st)) : pg_G κ w.1 nL ce sl Q (pf_P w S) pc lv (.int i :: .ref (w.2.1 kd ix) :: st) :=
  pf_in (fun M hM => pg_zald1 h d (ok kd ix hd).1 ((hM kd ix hd).trans he) hi.1 (by rw [hi.2]; exact pf_out hM kk))
theorem pf_zst {n j : Nat} {i : Int32} (x : Int32) (h : pg_X κ w.1 y cc nL ret rm) (ok : pf_ok w) (d : decode cc pc = .ok (.bastore, 1)) (hd : pf_dm w.2.2.1 kd ix = true) (he : ∀ g : Nat → Int32, pf_E w g kd ix = .inl (w.1.2.2 1, n, .inl (fun q => nb (g q)))) (hi : pg_ix i n j)
    (kk : pg_G κ w.1 nL ce sl Q (pf_P w (pf_st S kd ix j x)) (pc + 1) lv st) : pg_G κ w.1 nL ce sl Q (pf_P w S) pc lv (.int (nb x) :: .int i :: .ref (w.2.1 kd ix) :: st) :=
  pf_in (fun M hM => pg_zast1 h d (ok kd ix hd).1 ((hM kd ix hd).trans (he _)) hi.1 (nb_nar x) (by
    rw [hi.2]
    refine pf_out (hM.up ok hd ?_) kk
    rw [he]
    refine congrArg (fun f => Sum.inl (w.1.2.2 1, n, Sum.inl f)) ?_
    funext q
    by_cases hq : q = j
    · simp [upd, hq]
    · simp [upd, hq]))
theorem pf_ald {n j b : Nat} {i : Int32} {f : Nat → Option Nat} (h : pg_X κ w.1 y cc nL ret rm) (ok : pf_ok w) (d : decode cc pc = .ok (.aaload, 1)) (hd : pf_dm w.2.2.1 kd ix = true) (he : pf_E w (S kd ix) kd ix = .inl (w.1.2.2 2, n, .inr (.inr (.inr (.inr f))))) (hi : pg_ix i n j) (hb : f j = some b)
    (kk : pg_G κ w.1 nL ce sl Q (pf_P w S) (pc + 1) lv (.ref b :: st)) : pg_G κ w.1 nL ce sl Q (pf_P w S) pc lv (.int i :: .ref (w.2.1 kd ix) :: st) :=
  pf_in (fun M hM => pg_aald1 h d (ok kd ix hd).1 ((hM kd ix hd).trans he) hi.1 (by rw [hi.2, hb]; exact pf_out hM kk))
theorem pf_len {x : vp_A} {c : ClassId} {t0 : Nat} {ty : FieldType} {v : Int32} (h : pg_X κ w.1 y cc nL ret rm) (ok : pf_ok w) (d : decode cc pc = .ok (.arraylength, 1)) (hd : pf_dm w.2.2.1 kd ix = true) (he : pf_E w (S kd ix) kd ix = .inl (c, x)) (ht : (pg_ty w.1)[t0]? = some (c, ty)) (hv : Int32.ofNat x.1 = v)
    (kk : pg_G κ w.1 nL ce sl Q (pf_P w S) (pc + 1) lv (.int v :: st)) : pg_G κ w.1 nL ce sl Q (pf_P w S) pc lv (.ref (w.2.1 kd ix) :: st) :=
  pf_in (fun M hM => pg_alen1 h d (ok kd ix hd).1 ((hM kd ix hd).trans he) ht hv (pf_out hM kk))
theorem pf_recv {ci : Nat} {C : String} {fs : List Value} {H : Heap} (h : pg_X κ w.1 y cc nL ret rm) (ok : pf_ok w) (hc : pg_cn ci C) (hd : pf_dm w.2.2.1 kd ix = true) (he : pf_E w (S kd ix) kd ix = .inr (ci, fs)) (hP : pf_P w S H) : ∃ cell : Cell, H[w.2.1 kd ix]? = some cell ∧ cell.vm.isStatics = false ∧ (pg_s κ).vm.findClass C = some cell.cls := by
  obtain ⟨T, N, ty, hc⟩ := hc
  obtain ⟨M, hM, hP⟩ := hP
  exact pg_recv1 h hc (ok kd ix hd).1 ((hM kd ix hd).trans he) hP
/-- a contract over the flat memory: arguments, memory, answer, memory behind it -/
def pf_C (w : pf_W) (y : MethodName) (cc : ByteArray) (nL : Nat) (ret : Option FieldType) (d lo : Nat) (as : List Value) (S : pf_S) (r : Option Value) (S' : pf_S) : Prop := pg_E w.1 y cc nL ret ⟨d, 0, 0, lo⟩ as (pf_P w S) r (pf_P w S')
variable {y2 : MethodName} {cc2 : ByteArray} {nL2 n idx d2 lo2 ci : Nat} {ret2 : Option FieldType} {As rest fs : List Value} {S2 : pf_S} {v : Value}
theorem pf_cV (h : pg_X κ w.1 y cc nL ret rm) (ok : pf_ok w) (d : decode cc pc = .ok (.invokevirtual idx, 3)) (hm : pg_mi y2 cc2 nL2 ret2 n) (hl : pg_ml y.cls idx y2) (hC : pf_C w y2 cc2 nL2 ret2 d2 lo2 (.ref (w.2.1 kd ix) :: As) S (some v) S2) (hcn : pg_cn ci y2.cls) (hd : pf_dm w.2.2.1 kd ix = true) (he : pf_E w (S kd ix) kd ix = .inr (ci, fs)) (hn : As.length = n) (hst : st = As.reverse ++ .ref (w.2.1 kd ix) :: rest) (hcat : (rest.map fun v => v.category).sum ≤ 8)
    (hroom : d2 + 1 ≤ rm.frames ∧ 8 + (nL2 + 11) + lo2 ≤ rm.locals) (hcell : ce ≤ rm.cells ∧ sl ≤ rm.slots)
    (kk : pg_G κ w.1 nL ce sl Q (pf_P w S2) (pc + 3) lv (v :: rest)) : pg_G κ w.1 nL ce sl Q (pf_P w S) pc lv st := pg_cV h d hm hl hC (fun _ hP => pf_recv h ok hcn hd he hP) hn hst hcat hroom hcell kk
theorem pf_cV0 (h : pg_X κ w.1 y cc nL ret rm) (ok : pf_ok w) (d : decode cc pc = .ok (.invokevirtual idx, 3)) (hm : pg_mi y2 cc2 nL2 ret2 n) (hl : pg_ml y.cls idx y2) (hC : pf_C w y2 cc2 nL2 ret2 d2 lo2 (.ref (w.2.1 kd ix) :: As) S none S2) (hcn : pg_cn ci y2.cls) (hd : pf_dm w.2.2.1 kd ix = true) (he : pf_E w (S kd ix) kd ix = .inr (ci, fs)) (hn : As.length = n) (hst : st = As.reverse ++ .ref (w.2.1 kd ix) :: rest) (hcat : (rest.map fun v => v.category).sum ≤ 8)
    (hroom : d2 + 1 ≤ rm.frames ∧ 8 + (nL2 + 11) + lo2 ≤ rm.locals) (hcell : ce ≤ rm.cells ∧ sl ≤ rm.slots)
    (kk : pg_G κ w.1 nL ce sl Q (pf_P w S2) (pc + 3) lv rest) : pg_G κ w.1 nL ce sl Q (pf_P w S) pc lv st := pg_cV0 h d hm hl hC (fun _ hP => pf_recv h ok hcn hd he hP) hn hst hcat hroom hcell kk
theorem pf_iret {v : Int32} {r : Option Value} {ty : FieldType} {S2 : pf_S} (h : pg_X κ w.1 y cc nL (some ty) rm) (d : decode cc pc = .ok (.ireturn, 1)) (hn : narrow ty (.int v) = .int v) (hr : r = some (.int v)) (hS : S2 = S) : pg_G κ w.1 nL ce sl (pg_Q κ w.1 (fun r' H => r' = r ∧ pf_P w S2 H) ce sl) (pf_P w S) pc lv [.int v] := pg_iret h d hn (fun H hP => ⟨hr.symm, hS ▸ hP⟩)
theorem pf_vret {S2 : pf_S} (h : pg_X κ w.1 y cc nL none rm) (d : decode cc pc = .ok (.return_, 1)) (hS : S2 = S) : pg_G κ w.1 nL ce sl (pg_Q κ w.1 (fun r' H => r' = none ∧ pf_P w S2 H) ce sl) (pf_P w S) pc lv [] := pg_vret h d (fun H hP => ⟨rfl, hS ▸ hP⟩)
theorem pf_aret {v : Value} {r : Option Value} {C : String} {S2 : pf_S} (h : pg_X κ w.1 y cc nL (some (.object C)) rm) (d : decode cc pc = .ok (.areturn, 1)) (hv : v = .null ∨ ∃ a, v = .ref a) (hr : r = some v) (hS : S2 = S) : pg_G κ w.1 nL ce sl (pg_Q κ w.1 (fun r' H => r' = r ∧ pf_P w S2 H) ce sl) (pf_P w S) pc lv [v] := pg_aret h d hv (fun H hP => ⟨hr.symm, hS ▸ hP⟩)
theorem pf_enter {dd lo : Nat} {as : List Value} {r : Option Value} {lv0 : List (Option Value)} {S2 : pf_S} (hy : plainName y.cls = true) (hn : (lg_sl as).length ≤ nL) (hlv : lv_args 0 as = pg_lv 0 lv0)
    (body : ∀ κ : pg_K, pg_X κ w.1 y cc nL ret ⟨dd, 0, 0, lo⟩ → pg_G κ w.1 nL 0 0 (pg_Q κ w.1 (fun r' H => r' = r ∧ pf_P w S2 H) 0 0) (pf_P w S) 0 lv0 []) : pf_C w y cc nL ret dd lo as S r S2 := pg_enter hy hn hlv body
end PFLAT
section PGSTAT
variable {κ : pg_K} {z : pg_Z} {y : MethodName} {cc : ByteArray} {nL : Nat} {ret : Option FieldType} {rm : Room} {ce sl : Nat} {Q : State → Prop} {Pic : Heap → Prop} {pc : Nat} {lv : List (Option Value)} {st : List Value}
theorem pg_gsCW {idx : Nat} {host : String} (h : pg_X κ z y cc nL ret rm) (d : decode cc pc = .ok (.getstatic idx, 3)) (hl : (y.cls, idx, "PageReceiver", "CODE_WORDS", "[I", host) ∈ pg_nf) (k : pg_G κ z nL ce sl Q Pic (pc + 3) lv (.ref (z.2.2 3) :: st)) : pg_G κ z nL ce sl Q Pic pc lv st := fun H locs ls hP hS hl2 =>
  va_getsN (host := host) (ref := "PageReceiver") h.1 h.2.1 h.2.2.2.2.2.1.2.2.2.2.2.1.1 hS h.2.2.2.1 (va_Nw.use rfl (h.2.2.2.2.2.1.2.1 _ hl)) (fun _ x => x) d (k H locs ls hP hS hl2)
theorem pg_gsCP {idx : Nat} {host : String} (h : pg_X κ z y cc nL ret rm) (d : decode cc pc = .ok (.getstatic idx, 3)) (hl : (y.cls, idx, "PageReceiver", "CHECKED_PLACES", "[I", host) ∈ pg_nf) (k : pg_G κ z nL ce sl Q Pic (pc + 3) lv (.ref (z.2.2 4) :: st)) : pg_G κ z nL ce sl Q Pic pc lv st := fun H locs ls hP hS hl2 =>
  va_getsN (host := host) (ref := "PageReceiver") h.1 h.2.1 h.2.2.2.2.2.1.2.2.2.2.2.2.1 hS h.2.2.2.1 (va_Nw.use rfl (h.2.2.2.2.2.1.2.1 _ hl)) (fun _ x => x) d (k H locs ls hP hS hl2)
theorem pg_lenCW (h : pg_X κ z y cc nL ret rm) (d : decode cc pc = .ok (.arraylength, 1)) (k : pg_G κ z nL ce sl Q Pic (pc + 1) lv (.int 16 :: st)) : pg_G κ z nL ce sl Q Pic pc lv (.ref (z.2.2 3) :: st) := fun H locs ls hP hS hl => va_tlen h.1 h.2.1 h.2.2.2.2.2.1.2.2.2.2.2.1.2 hS (by decide) d (k H locs ls hP hS hl)
theorem pg_lenCP (h : pg_X κ z y cc nL ret rm) (d : decode cc pc = .ok (.arraylength, 1)) (k : pg_G κ z nL ce sl Q Pic (pc + 1) lv (.int 5 :: st)) : pg_G κ z nL ce sl Q Pic pc lv (.ref (z.2.2 4) :: st) := fun H locs ls hP hS hl => va_tlen h.1 h.2.1 h.2.2.2.2.2.1.2.2.2.2.2.2.2 hS (by decide) d (k H locs ls hP hS hl)
theorem pg_ldCW {i : Int32} {j : Nat} (h : pg_X κ z y cc nL ret rm) (d : decode cc pc = .ok (.iaload, 1)) (hi : pg_ix i 16 j) (k : pg_G κ z nL ce sl Q Pic (pc + 1) lv (.int (pg_cw j) :: st)) : pg_G κ z nL ce sl Q Pic pc lv (.int i :: .ref (z.2.2 3) :: st) := fun H locs ls hP hS hl => va_ti h.1 h.2.1 h.2.2.2.2.2.1.2.2.2.2.2.1.2 hS hi.1 (by rw [hi.2]) d (k H locs ls hP hS hl)
theorem pg_ldCP {i : Int32} {j : Nat} (h : pg_X κ z y cc nL ret rm) (d : decode cc pc = .ok (.iaload, 1)) (hi : pg_ix i 5 j) (k : pg_G κ z nL ce sl Q Pic (pc + 1) lv (.int (pg_cp j) :: st)) : pg_G κ z nL ce sl Q Pic pc lv (.int i :: .ref (z.2.2 4) :: st) := fun H locs ls hP hS hl => va_ti h.1 h.2.1 h.2.2.2.2.2.1.2.2.2.2.2.2.2 hS hi.1 (by rw [hi.2]) d (k H locs ls hP hS hl)
end PGSTAT
end
section
/-! Facts about classes, pool rows and methods, written by gen_names.py. -/
set_option maxRecDepth 100000 in
theorem cu_Recv : ∀ w ∈ u_ws "PageReceiver" T_Recv 6, w ∈ pg_ws := by
  intro w hw
  obtain ⟨k, hk, rfl⟩ := List.mem_map.mp hw
  have hk := List.mem_range.mp hk
  rcases (show k = 0 ∨ k = 1 ∨ k = 2 ∨ k = 3 ∨ k = 4 ∨ k = 5 by omega) with rfl | rfl | rfl | rfl | rfl | rfl
  · exact pg_tb 265 rfl rfl
  · exact pg_tb 267 rfl rfl
  · exact pg_tb 269 rfl rfl
  · exact pg_tb 271 rfl rfl
  · exact pg_tb 273 rfl rfl
  · exact pg_tb 275 rfl rfl
set_option maxRecDepth 100000 in
theorem cf_Recv : pg_cf 0 "PageReceiver" T_Recv 6 t_Recv := ⟨rfl, cu_Recv, by decide +kernel, by decide +kernel⟩
set_option maxRecDepth 100000 in
theorem cn_Recv : pg_cn 0 "PageReceiver" := ⟨T_Recv, 6, t_Recv, cf_Recv⟩
set_option maxRecDepth 100000 in
theorem cu_Packet : ∀ w ∈ u_ws "PageReceiver$Packet" T_Packet 3, w ∈ pg_ws := by
  intro w hw
  obtain ⟨k, hk, rfl⟩ := List.mem_map.mp hw
  have hk := List.mem_range.mp hk
  rcases (show k = 0 ∨ k = 1 ∨ k = 2 by omega) with rfl | rfl | rfl
  · exact pg_tb 32 rfl rfl
  · exact pg_tb 34 rfl rfl
  · exact pg_tb 36 rfl rfl
set_option maxRecDepth 100000 in
theorem cf_Packet : pg_cf 1 "PageReceiver$Packet" T_Packet 3 t_Packet := ⟨rfl, cu_Packet, by decide +kernel, by decide +kernel⟩
set_option maxRecDepth 100000 in
theorem cn_Packet : pg_cn 1 "PageReceiver$Packet" := ⟨T_Packet, 3, t_Packet, cf_Packet⟩
set_option maxRecDepth 100000 in
theorem cu_Page : ∀ w ∈ u_ws "PageReceiver$Page" T_Page 8, w ∈ pg_ws := by
  intro w hw
  obtain ⟨k, hk, rfl⟩ := List.mem_map.mp hw
  have hk := List.mem_range.mp hk
  rcases (show k = 0 ∨ k = 1 ∨ k = 2 ∨ k = 3 ∨ k = 4 ∨ k = 5 ∨ k = 6 ∨ k = 7 by omega) with rfl | rfl | rfl | rfl | rfl | rfl | rfl | rfl
  · exact pg_tb 78 rfl rfl
  · exact pg_tb 80 rfl rfl
  · exact pg_tb 82 rfl rfl
  · exact pg_tb 84 rfl rfl
  · exact pg_tb 86 rfl rfl
  · exact pg_tb 88 rfl rfl
  · exact pg_tb 90 rfl rfl
  · exact pg_tb 92 rfl rfl
set_option maxRecDepth 100000 in
theorem cf_Page : pg_cf 2 "PageReceiver$Page" T_Page 8 t_Page := ⟨rfl, cu_Page, by decide +kernel, by decide +kernel⟩
set_option maxRecDepth 100000 in
theorem cn_Page : pg_cn 2 "PageReceiver$Page" := ⟨T_Page, 8, t_Page, cf_Page⟩
set_option maxRecDepth 100000 in
theorem cu_Shelf : ∀ w ∈ u_ws "PageReceiver$Shelf" T_Shelf 2, w ∈ pg_ws := by
  intro w hw
  obtain ⟨k, hk, rfl⟩ := List.mem_map.mp hw
  have hk := List.mem_range.mp hk
  rcases (show k = 0 ∨ k = 1 by omega) with rfl | rfl
  · exact pg_tb 97 rfl rfl
  · exact pg_tb 99 rfl rfl
set_option maxRecDepth 100000 in
theorem cf_Shelf : pg_cf 3 "PageReceiver$Shelf" T_Shelf 2 t_Shelf := ⟨rfl, cu_Shelf, by decide +kernel, by decide +kernel⟩
set_option maxRecDepth 100000 in
theorem cn_Shelf : pg_cn 3 "PageReceiver$Shelf" := ⟨T_Shelf, 2, t_Shelf, cf_Shelf⟩
set_option maxRecDepth 100000 in
theorem cu_Remote : ∀ w ∈ u_ws "PageReceiver$Remote" T_Remote 7, w ∈ pg_ws := by
  intro w hw
  obtain ⟨k, hk, rfl⟩ := List.mem_map.mp hw
  have hk := List.mem_range.mp hk
  rcases (show k = 0 ∨ k = 1 ∨ k = 2 ∨ k = 3 ∨ k = 4 ∨ k = 5 ∨ k = 6 by omega) with rfl | rfl | rfl | rfl | rfl | rfl | rfl
  · exact pg_tb 124 rfl rfl
  · exact pg_tb 126 rfl rfl
  · exact pg_tb 128 rfl rfl
  · exact pg_tb 130 rfl rfl
  · exact pg_tb 132 rfl rfl
  · exact pg_tb 134 rfl rfl
  · exact pg_tb 136 rfl rfl
set_option maxRecDepth 100000 in
theorem cf_Remote : pg_cf 4 "PageReceiver$Remote" T_Remote 7 t_Remote := ⟨rfl, cu_Remote, by decide +kernel, by decide +kernel⟩
set_option maxRecDepth 100000 in
theorem cn_Remote : pg_cn 4 "PageReceiver$Remote" := ⟨T_Remote, 7, t_Remote, cf_Remote⟩
set_option maxRecDepth 100000 in
theorem cu_Tuner : ∀ w ∈ u_ws "PageReceiver$Tuner" T_Tuner 7, w ∈ pg_ws := by
  intro w hw
  obtain ⟨k, hk, rfl⟩ := List.mem_map.mp hw
  have hk := List.mem_range.mp hk
  rcases (show k = 0 ∨ k = 1 ∨ k = 2 ∨ k = 3 ∨ k = 4 ∨ k = 5 ∨ k = 6 by omega) with rfl | rfl | rfl | rfl | rfl | rfl | rfl
  · exact pg_tb 158 rfl rfl
  · exact pg_tb 160 rfl rfl
  · exact pg_tb 162 rfl rfl
  · exact pg_tb 164 rfl rfl
  · exact pg_tb 166 rfl rfl
  · exact pg_tb 168 rfl rfl
  · exact pg_tb 170 rfl rfl
set_option maxRecDepth 100000 in
theorem cf_Tuner : pg_cf 5 "PageReceiver$Tuner" T_Tuner 7 t_Tuner := ⟨rfl, cu_Tuner, by decide +kernel, by decide +kernel⟩
set_option maxRecDepth 100000 in
theorem cn_Tuner : pg_cn 5 "PageReceiver$Tuner" := ⟨T_Tuner, 7, t_Tuner, cf_Tuner⟩
set_option maxRecDepth 100000 in
theorem cu_States : ∀ w ∈ u_ws "PageReceiver$States" T_States 11, w ∈ pg_ws := by
  intro w hw
  obtain ⟨k, hk, rfl⟩ := List.mem_map.mp hw
  have hk := List.mem_range.mp hk
  rcases (show k = 0 ∨ k = 1 ∨ k = 2 ∨ k = 3 ∨ k = 4 ∨ k = 5 ∨ k = 6 ∨ k = 7 ∨ k = 8 ∨ k = 9 ∨ k = 10 by omega) with rfl | rfl | rfl | rfl | rfl | rfl | rfl | rfl | rfl | rfl | rfl
  · exact pg_tb 206 rfl rfl
  · exact pg_tb 208 rfl rfl
  · exact pg_tb 210 rfl rfl
  · exact pg_tb 212 rfl rfl
  · exact pg_tb 214 rfl rfl
  · exact pg_tb 216 rfl rfl
  · exact pg_tb 218 rfl rfl
  · exact pg_tb 220 rfl rfl
  · exact pg_tb 222 rfl rfl
  · exact pg_tb 224 rfl rfl
  · exact pg_tb 226 rfl rfl
set_option maxRecDepth 100000 in
theorem cf_States : pg_cf 6 "PageReceiver$States" T_States 11 t_States := ⟨rfl, cu_States, by decide +kernel, by decide +kernel⟩
set_option maxRecDepth 100000 in
theorem cn_States : pg_cn 6 "PageReceiver$States" := ⟨T_States, 11, t_States, cf_States⟩
set_option maxRecDepth 100000 in
theorem cu_Screen : ∀ w ∈ u_ws "PageReceiver$Screen" T_Screen 8, w ∈ pg_ws := by
  intro w hw
  obtain ⟨k, hk, rfl⟩ := List.mem_map.mp hw
  have hk := List.mem_range.mp hk
  rcases (show k = 0 ∨ k = 1 ∨ k = 2 ∨ k = 3 ∨ k = 4 ∨ k = 5 ∨ k = 6 ∨ k = 7 by omega) with rfl | rfl | rfl | rfl | rfl | rfl | rfl | rfl
  · exact pg_tb 242 rfl rfl
  · exact pg_tb 244 rfl rfl
  · exact pg_tb 246 rfl rfl
  · exact pg_tb 248 rfl rfl
  · exact pg_tb 250 rfl rfl
  · exact pg_tb 252 rfl rfl
  · exact pg_tb 254 rfl rfl
  · exact pg_tb 256 rfl rfl
set_option maxRecDepth 100000 in
theorem cf_Screen : pg_cf 7 "PageReceiver$Screen" T_Screen 8 t_Screen := ⟨rfl, cu_Screen, by decide +kernel, by decide +kernel⟩
set_option maxRecDepth 100000 in
theorem cn_Screen : pg_cn 7 "PageReceiver$Screen" := ⟨T_Screen, 8, t_Screen, cf_Screen⟩
set_option maxRecDepth 100000 in
theorem cu_Mod : ∀ w ∈ u_ws "PageReceiverModel" T_Mod 37, w ∈ pg_ws := by
  intro w hw
  obtain ⟨k, hk, rfl⟩ := List.mem_map.mp hw
  have hk := List.mem_range.mp hk
  rcases (show k = 0 ∨ k = 1 ∨ k = 2 ∨ k = 3 ∨ k = 4 ∨ k = 5 ∨ k = 6 ∨ k = 7 ∨ k = 8 ∨ k = 9 ∨ k = 10 ∨ k = 11 ∨ k = 12 ∨ k = 13 ∨ k = 14 ∨ k = 15 ∨ k = 16 ∨ k = 17 ∨ k = 18 ∨ k = 19 ∨ k = 20 ∨ k = 21 ∨ k = 22 ∨ k = 23 ∨ k = 24 ∨ k = 25 ∨ k = 26 ∨ k = 27 ∨ k = 28 ∨ k = 29 ∨ k = 30 ∨ k = 31 ∨ k = 32 ∨ k = 33 ∨ k = 34 ∨ k = 35 ∨ k = 36 by omega) with rfl | rfl | rfl | rfl | rfl | rfl | rfl | rfl | rfl | rfl | rfl | rfl | rfl | rfl | rfl | rfl | rfl | rfl | rfl | rfl | rfl | rfl | rfl | rfl | rfl | rfl | rfl | rfl | rfl | rfl | rfl | rfl | rfl | rfl | rfl | rfl | rfl
  · exact pg_tb 651 rfl rfl
  · exact pg_tb 653 rfl rfl
  · exact pg_tb 655 rfl rfl
  · exact pg_tb 657 rfl rfl
  · exact pg_tb 659 rfl rfl
  · exact pg_tb 661 rfl rfl
  · exact pg_tb 663 rfl rfl
  · exact pg_tb 665 rfl rfl
  · exact pg_tb 667 rfl rfl
  · exact pg_tb 669 rfl rfl
  · exact pg_tb 671 rfl rfl
  · exact pg_tb 673 rfl rfl
  · exact pg_tb 675 rfl rfl
  · exact pg_tb 677 rfl rfl
  · exact pg_tb 679 rfl rfl
  · exact pg_tb 681 rfl rfl
  · exact pg_tb 683 rfl rfl
  · exact pg_tb 685 rfl rfl
  · exact pg_tb 687 rfl rfl
  · exact pg_tb 689 rfl rfl
  · exact pg_tb 691 rfl rfl
  · exact pg_tb 693 rfl rfl
  · exact pg_tb 695 rfl rfl
  · exact pg_tb 697 rfl rfl
  · exact pg_tb 699 rfl rfl
  · exact pg_tb 701 rfl rfl
  · exact pg_tb 703 rfl rfl
  · exact pg_tb 705 rfl rfl
  · exact pg_tb 707 rfl rfl
  · exact pg_tb 709 rfl rfl
  · exact pg_tb 711 rfl rfl
  · exact pg_tb 713 rfl rfl
  · exact pg_tb 715 rfl rfl
  · exact pg_tb 717 rfl rfl
  · exact pg_tb 719 rfl rfl
  · exact pg_tb 721 rfl rfl
  · exact pg_tb 723 rfl rfl
set_option maxRecDepth 100000 in
theorem cf_Mod : pg_cf 8 "PageReceiverModel" T_Mod 37 t_Mod := ⟨rfl, cu_Mod, by decide +kernel, by decide +kernel⟩
set_option maxRecDepth 100000 in
theorem cn_Mod : pg_cn 8 "PageReceiverModel" := ⟨T_Mod, 37, t_Mod, cf_Mod⟩
set_option maxRecDepth 100000 in
theorem fl_Recv_9 : pg_fl "PageReceiver" 9 T_Recv 0 := Or.inl (pg_tb 259 rfl rfl)
set_option maxRecDepth 100000 in
theorem f_Recv_9 : pg_fs "PageReceiver" 9 0 0 := ⟨"PageReceiver", T_Recv, 6, t_Recv, cf_Recv, fl_Recv_9, by decide⟩
set_option maxRecDepth 100000 in
theorem fl_Recv_18 : pg_fl "PageReceiver" 18 T_Recv 1 := Or.inl (pg_tb 260 rfl rfl)
set_option maxRecDepth 100000 in
theorem f_Recv_18 : pg_fs "PageReceiver" 18 0 1 := ⟨"PageReceiver", T_Recv, 6, t_Recv, cf_Recv, fl_Recv_18, by decide⟩
set_option maxRecDepth 100000 in
theorem fl_Recv_36 : pg_fl "PageReceiver" 36 T_Recv 2 := Or.inl (pg_tb 261 rfl rfl)
set_option maxRecDepth 100000 in
theorem f_Recv_36 : pg_fs "PageReceiver" 36 0 2 := ⟨"PageReceiver", T_Recv, 6, t_Recv, cf_Recv, fl_Recv_36, by decide⟩
set_option maxRecDepth 100000 in
theorem fl_Recv_45 : pg_fl "PageReceiver" 45 T_Recv 3 := Or.inl (pg_tb 262 rfl rfl)
set_option maxRecDepth 100000 in
theorem f_Recv_45 : pg_fs "PageReceiver" 45 0 3 := ⟨"PageReceiver", T_Recv, 6, t_Recv, cf_Recv, fl_Recv_45, by decide⟩
set_option maxRecDepth 100000 in
theorem fl_Recv_54 : pg_fl "PageReceiver" 54 T_Recv 4 := Or.inl (pg_tb 263 rfl rfl)
set_option maxRecDepth 100000 in
theorem f_Recv_54 : pg_fs "PageReceiver" 54 0 4 := ⟨"PageReceiver", T_Recv, 6, t_Recv, cf_Recv, fl_Recv_54, by decide⟩
set_option maxRecDepth 100000 in
theorem fl_Recv_60 : pg_fl "PageReceiver" 60 T_Tuner 5 := Or.inr ⟨"PageReceiver", List.mem_of_getElem? (i := 19) rfl⟩
set_option maxRecDepth 100000 in
theorem f_Recv_60 : pg_fs "PageReceiver" 60 5 5 := ⟨"PageReceiver$Tuner", T_Tuner, 7, t_Tuner, cf_Tuner, fl_Recv_60, by decide⟩
set_option maxRecDepth 100000 in
theorem fl_Recv_66 : pg_fl "PageReceiver" 66 T_Recv 5 := Or.inl (pg_tb 264 rfl rfl)
set_option maxRecDepth 100000 in
theorem f_Recv_66 : pg_fs "PageReceiver" 66 0 5 := ⟨"PageReceiver", T_Recv, 6, t_Recv, cf_Recv, fl_Recv_66, by decide⟩
set_option maxRecDepth 100000 in
theorem fl_Recv_85 : pg_fl "PageReceiver" 85 T_Packet 2 := Or.inr ⟨"PageReceiver", List.mem_of_getElem? (i := 0) rfl⟩
set_option maxRecDepth 100000 in
theorem f_Recv_85 : pg_fs "PageReceiver" 85 1 2 := ⟨"PageReceiver$Packet", T_Packet, 3, t_Packet, cf_Packet, fl_Recv_85, by decide⟩
set_option maxRecDepth 100000 in
theorem fw_Recv_85 : pg_fw "PageReceiver" 85 1 2 (.int) := ⟨"PageReceiver$Packet", T_Packet, 3, t_Packet, cf_Packet, fl_Recv_85, by decide, rfl, rfl⟩
set_option maxRecDepth 100000 in
theorem fl_Recv_96 : pg_fl "PageReceiver" 96 T_Screen 3 := Or.inr ⟨"PageReceiver", List.mem_of_getElem? (i := 30) rfl⟩
set_option maxRecDepth 100000 in
theorem f_Recv_96 : pg_fs "PageReceiver" 96 7 3 := ⟨"PageReceiver$Screen", T_Screen, 8, t_Screen, cf_Screen, fl_Recv_96, by decide⟩
set_option maxRecDepth 100000 in
theorem fw_Recv_96 : pg_fw "PageReceiver" 96 7 3 (.boolean) := ⟨"PageReceiver$Screen", T_Screen, 8, t_Screen, cf_Screen, fl_Recv_96, by decide, rfl, rfl⟩
set_option maxRecDepth 100000 in
theorem fl_Recv_104 : pg_fl "PageReceiver" 104 T_Page 1 := Or.inr ⟨"PageReceiver", List.mem_of_getElem? (i := 6) rfl⟩
set_option maxRecDepth 100000 in
theorem f_Recv_104 : pg_fs "PageReceiver" 104 2 1 := ⟨"PageReceiver$Page", T_Page, 8, t_Page, cf_Page, fl_Recv_104, by decide⟩
set_option maxRecDepth 100000 in
theorem fw_Recv_104 : pg_fw "PageReceiver" 104 2 1 (.int) := ⟨"PageReceiver$Page", T_Page, 8, t_Page, cf_Page, fl_Recv_104, by decide, rfl, rfl⟩
set_option maxRecDepth 100000 in
theorem fl_Recv_109 : pg_fl "PageReceiver" 109 T_Remote 2 := Or.inr ⟨"PageReceiver", List.mem_of_getElem? (i := 15) rfl⟩
set_option maxRecDepth 100000 in
theorem f_Recv_109 : pg_fs "PageReceiver" 109 4 2 := ⟨"PageReceiver$Remote", T_Remote, 7, t_Remote, cf_Remote, fl_Recv_109, by decide⟩
set_option maxRecDepth 100000 in
theorem fw_Recv_109 : pg_fw "PageReceiver" 109 4 2 (.int) := ⟨"PageReceiver$Remote", T_Remote, 7, t_Remote, cf_Remote, fl_Recv_109, by decide, rfl, rfl⟩
set_option maxRecDepth 100000 in
theorem fl_Recv_112 : pg_fl "PageReceiver" 112 T_Remote 3 := Or.inr ⟨"PageReceiver", List.mem_of_getElem? (i := 16) rfl⟩
set_option maxRecDepth 100000 in
theorem f_Recv_112 : pg_fs "PageReceiver" 112 4 3 := ⟨"PageReceiver$Remote", T_Remote, 7, t_Remote, cf_Remote, fl_Recv_112, by decide⟩
set_option maxRecDepth 100000 in
theorem fw_Recv_112 : pg_fw "PageReceiver" 112 4 3 (.int) := ⟨"PageReceiver$Remote", T_Remote, 7, t_Remote, cf_Remote, fl_Recv_112, by decide, rfl, rfl⟩
set_option maxRecDepth 100000 in
theorem fl_Recv_115 : pg_fl "PageReceiver" 115 T_Remote 1 := Or.inr ⟨"PageReceiver", List.mem_of_getElem? (i := 12) rfl⟩
set_option maxRecDepth 100000 in
theorem f_Recv_115 : pg_fs "PageReceiver" 115 4 1 := ⟨"PageReceiver$Remote", T_Remote, 7, t_Remote, cf_Remote, fl_Recv_115, by decide⟩
set_option maxRecDepth 100000 in
theorem fl_Recv_119 : pg_fl "PageReceiver" 119 T_Page 0 := Or.inr ⟨"PageReceiver", List.mem_of_getElem? (i := 4) rfl⟩
set_option maxRecDepth 100000 in
theorem f_Recv_119 : pg_fs "PageReceiver" 119 2 0 := ⟨"PageReceiver$Page", T_Page, 8, t_Page, cf_Page, fl_Recv_119, by decide⟩
set_option maxRecDepth 100000 in
theorem fw_Recv_119 : pg_fw "PageReceiver" 119 2 0 (.boolean) := ⟨"PageReceiver$Page", T_Page, 8, t_Page, cf_Page, fl_Recv_119, by decide, rfl, rfl⟩
set_option maxRecDepth 100000 in
theorem fl_Recv_122 : pg_fl "PageReceiver" 122 T_Remote 6 := Or.inr ⟨"PageReceiver", List.mem_of_getElem? (i := 17) rfl⟩
set_option maxRecDepth 100000 in
theorem f_Recv_122 : pg_fs "PageReceiver" 122 4 6 := ⟨"PageReceiver$Remote", T_Remote, 7, t_Remote, cf_Remote, fl_Recv_122, by decide⟩
set_option maxRecDepth 100000 in
theorem fw_Recv_122 : pg_fw "PageReceiver" 122 4 6 (.boolean) := ⟨"PageReceiver$Remote", T_Remote, 7, t_Remote, cf_Remote, fl_Recv_122, by decide, rfl, rfl⟩
set_option maxRecDepth 100000 in
theorem fl_Recv_141 : pg_fl "PageReceiver" 141 T_Screen 4 := Or.inr ⟨"PageReceiver", List.mem_of_getElem? (i := 31) rfl⟩
set_option maxRecDepth 100000 in
theorem f_Recv_141 : pg_fs "PageReceiver" 141 7 4 := ⟨"PageReceiver$Screen", T_Screen, 8, t_Screen, cf_Screen, fl_Recv_141, by decide⟩
set_option maxRecDepth 100000 in
theorem fw_Recv_141 : pg_fw "PageReceiver" 141 7 4 (.int) := ⟨"PageReceiver$Screen", T_Screen, 8, t_Screen, cf_Screen, fl_Recv_141, by decide, rfl, rfl⟩
set_option maxRecDepth 100000 in
theorem fl_Recv_144 : pg_fl "PageReceiver" 144 T_Screen 5 := Or.inr ⟨"PageReceiver", List.mem_of_getElem? (i := 32) rfl⟩
set_option maxRecDepth 100000 in
theorem f_Recv_144 : pg_fs "PageReceiver" 144 7 5 := ⟨"PageReceiver$Screen", T_Screen, 8, t_Screen, cf_Screen, fl_Recv_144, by decide⟩
set_option maxRecDepth 100000 in
theorem fw_Recv_144 : pg_fw "PageReceiver" 144 7 5 (.int) := ⟨"PageReceiver$Screen", T_Screen, 8, t_Screen, cf_Screen, fl_Recv_144, by decide, rfl, rfl⟩
set_option maxRecDepth 100000 in
theorem fl_Recv_147 : pg_fl "PageReceiver" 147 T_Screen 6 := Or.inr ⟨"PageReceiver", List.mem_of_getElem? (i := 33) rfl⟩
set_option maxRecDepth 100000 in
theorem f_Recv_147 : pg_fs "PageReceiver" 147 7 6 := ⟨"PageReceiver$Screen", T_Screen, 8, t_Screen, cf_Screen, fl_Recv_147, by decide⟩
set_option maxRecDepth 100000 in
theorem fw_Recv_147 : pg_fw "PageReceiver" 147 7 6 (.int) := ⟨"PageReceiver$Screen", T_Screen, 8, t_Screen, cf_Screen, fl_Recv_147, by decide, rfl, rfl⟩
set_option maxRecDepth 100000 in
theorem fl_Recv_150 : pg_fl "PageReceiver" 150 T_Screen 7 := Or.inr ⟨"PageReceiver", List.mem_of_getElem? (i := 34) rfl⟩
set_option maxRecDepth 100000 in
theorem f_Recv_150 : pg_fs "PageReceiver" 150 7 7 := ⟨"PageReceiver$Screen", T_Screen, 8, t_Screen, cf_Screen, fl_Recv_150, by decide⟩
set_option maxRecDepth 100000 in
theorem fw_Recv_150 : pg_fw "PageReceiver" 150 7 7 (.int) := ⟨"PageReceiver$Screen", T_Screen, 8, t_Screen, cf_Screen, fl_Recv_150, by decide, rfl, rfl⟩
set_option maxRecDepth 100000 in
theorem fl_Packet_9 : pg_fl "PageReceiver$Packet" 9 T_Packet 0 := Or.inl (pg_tb 28 rfl rfl)
set_option maxRecDepth 100000 in
theorem f_Packet_9 : pg_fs "PageReceiver$Packet" 9 1 0 := ⟨"PageReceiver$Packet", T_Packet, 3, t_Packet, cf_Packet, fl_Packet_9, by decide⟩
set_option maxRecDepth 100000 in
theorem fl_Packet_15 : pg_fl "PageReceiver$Packet" 15 T_Packet 1 := Or.inl (pg_tb 29 rfl rfl)
set_option maxRecDepth 100000 in
theorem f_Packet_15 : pg_fs "PageReceiver$Packet" 15 1 1 := ⟨"PageReceiver$Packet", T_Packet, 3, t_Packet, cf_Packet, fl_Packet_15, by decide⟩
set_option maxRecDepth 100000 in
theorem fl_Packet_18 : pg_fl "PageReceiver$Packet" 18 T_Packet 2 := Or.inl (pg_tb 30 rfl rfl)
set_option maxRecDepth 100000 in
theorem f_Packet_18 : pg_fs "PageReceiver$Packet" 18 1 2 := ⟨"PageReceiver$Packet", T_Packet, 3, t_Packet, cf_Packet, fl_Packet_18, by decide⟩
set_option maxRecDepth 100000 in
theorem fw_Packet_18 : pg_fw "PageReceiver$Packet" 18 1 2 (.int) := ⟨"PageReceiver$Packet", T_Packet, 3, t_Packet, cf_Packet, fl_Packet_18, by decide, rfl, rfl⟩
set_option maxRecDepth 100000 in
theorem fl_Page_9 : pg_fl "PageReceiver$Page" 9 T_Page 5 := Or.inl (pg_tb 74 rfl rfl)
set_option maxRecDepth 100000 in
theorem f_Page_9 : pg_fs "PageReceiver$Page" 9 2 5 := ⟨"PageReceiver$Page", T_Page, 8, t_Page, cf_Page, fl_Page_9, by decide⟩
set_option maxRecDepth 100000 in
theorem fl_Page_15 : pg_fl "PageReceiver$Page" 15 T_Page 6 := Or.inl (pg_tb 75 rfl rfl)
set_option maxRecDepth 100000 in
theorem f_Page_15 : pg_fs "PageReceiver$Page" 15 2 6 := ⟨"PageReceiver$Page", T_Page, 8, t_Page, cf_Page, fl_Page_15, by decide⟩
set_option maxRecDepth 100000 in
theorem fl_Page_18 : pg_fl "PageReceiver$Page" 18 T_Page 7 := Or.inl (pg_tb 76 rfl rfl)
set_option maxRecDepth 100000 in
theorem f_Page_18 : pg_fs "PageReceiver$Page" 18 2 7 := ⟨"PageReceiver$Page", T_Page, 8, t_Page, cf_Page, fl_Page_18, by decide⟩
set_option maxRecDepth 100000 in
theorem fl_Page_21 : pg_fl "PageReceiver$Page" 21 T_Page 0 := Or.inl (pg_tb 59 rfl rfl)
set_option maxRecDepth 100000 in
theorem f_Page_21 : pg_fs "PageReceiver$Page" 21 2 0 := ⟨"PageReceiver$Page", T_Page, 8, t_Page, cf_Page, fl_Page_21, by decide⟩
set_option maxRecDepth 100000 in
theorem fw_Page_21 : pg_fw "PageReceiver$Page" 21 2 0 (.boolean) := ⟨"PageReceiver$Page", T_Page, 8, t_Page, cf_Page, fl_Page_21, by decide, rfl, rfl⟩
set_option maxRecDepth 100000 in
theorem fl_Page_25 : pg_fl "PageReceiver$Page" 25 T_Page 1 := Or.inl (pg_tb 64 rfl rfl)
set_option maxRecDepth 100000 in
theorem f_Page_25 : pg_fs "PageReceiver$Page" 25 2 1 := ⟨"PageReceiver$Page", T_Page, 8, t_Page, cf_Page, fl_Page_25, by decide⟩
set_option maxRecDepth 100000 in
theorem fw_Page_25 : pg_fw "PageReceiver$Page" 25 2 1 (.int) := ⟨"PageReceiver$Page", T_Page, 8, t_Page, cf_Page, fl_Page_25, by decide, rfl, rfl⟩
set_option maxRecDepth 100000 in
theorem fl_Page_35 : pg_fl "PageReceiver$Page" 35 T_Page 2 := Or.inl (pg_tb 67 rfl rfl)
set_option maxRecDepth 100000 in
theorem f_Page_35 : pg_fs "PageReceiver$Page" 35 2 2 := ⟨"PageReceiver$Page", T_Page, 8, t_Page, cf_Page, fl_Page_35, by decide⟩
set_option maxRecDepth 100000 in
theorem fw_Page_35 : pg_fw "PageReceiver$Page" 35 2 2 (.int) := ⟨"PageReceiver$Page", T_Page, 8, t_Page, cf_Page, fl_Page_35, by decide, rfl, rfl⟩
set_option maxRecDepth 100000 in
theorem fl_Page_38 : pg_fl "PageReceiver$Page" 38 T_Page 3 := Or.inl (pg_tb 69 rfl rfl)
set_option maxRecDepth 100000 in
theorem f_Page_38 : pg_fs "PageReceiver$Page" 38 2 3 := ⟨"PageReceiver$Page", T_Page, 8, t_Page, cf_Page, fl_Page_38, by decide⟩
set_option maxRecDepth 100000 in
theorem fw_Page_38 : pg_fw "PageReceiver$Page" 38 2 3 (.int) := ⟨"PageReceiver$Page", T_Page, 8, t_Page, cf_Page, fl_Page_38, by decide, rfl, rfl⟩
set_option maxRecDepth 100000 in
theorem fl_Page_41 : pg_fl "PageReceiver$Page" 41 T_Page 4 := Or.inl (pg_tb 72 rfl rfl)
set_option maxRecDepth 100000 in
theorem f_Page_41 : pg_fs "PageReceiver$Page" 41 2 4 := ⟨"PageReceiver$Page", T_Page, 8, t_Page, cf_Page, fl_Page_41, by decide⟩
set_option maxRecDepth 100000 in
theorem fw_Page_41 : pg_fw "PageReceiver$Page" 41 2 4 (.int) := ⟨"PageReceiver$Page", T_Page, 8, t_Page, cf_Page, fl_Page_41, by decide, rfl, rfl⟩
set_option maxRecDepth 100000 in
theorem fl_Remote_12 : pg_fl "PageReceiver$Remote" 12 T_Remote 1 := Or.inl (pg_tb 111 rfl rfl)
set_option maxRecDepth 100000 in
theorem f_Remote_12 : pg_fs "PageReceiver$Remote" 12 4 1 := ⟨"PageReceiver$Remote", T_Remote, 7, t_Remote, cf_Remote, fl_Remote_12, by decide⟩
set_option maxRecDepth 100000 in
theorem fl_Remote_18 : pg_fl "PageReceiver$Remote" 18 T_Remote 2 := Or.inl (pg_tb 113 rfl rfl)
set_option maxRecDepth 100000 in
theorem f_Remote_18 : pg_fs "PageReceiver$Remote" 18 4 2 := ⟨"PageReceiver$Remote", T_Remote, 7, t_Remote, cf_Remote, fl_Remote_18, by decide⟩
set_option maxRecDepth 100000 in
theorem fw_Remote_18 : pg_fw "PageReceiver$Remote" 18 4 2 (.int) := ⟨"PageReceiver$Remote", T_Remote, 7, t_Remote, cf_Remote, fl_Remote_18, by decide, rfl, rfl⟩
set_option maxRecDepth 100000 in
theorem fl_Remote_22 : pg_fl "PageReceiver$Remote" 22 T_Remote 0 := Or.inl (pg_tb 110 rfl rfl)
set_option maxRecDepth 100000 in
theorem f_Remote_22 : pg_fs "PageReceiver$Remote" 22 4 0 := ⟨"PageReceiver$Remote", T_Remote, 7, t_Remote, cf_Remote, fl_Remote_22, by decide⟩
set_option maxRecDepth 100000 in
theorem fl_Remote_26 : pg_fl "PageReceiver$Remote" 26 T_Page 0 := Or.inr ⟨"PageReceiver", List.mem_of_getElem? (i := 1) rfl⟩
set_option maxRecDepth 100000 in
theorem f_Remote_26 : pg_fs "PageReceiver$Remote" 26 2 0 := ⟨"PageReceiver$Page", T_Page, 8, t_Page, cf_Page, fl_Remote_26, by decide⟩
set_option maxRecDepth 100000 in
theorem fw_Remote_26 : pg_fw "PageReceiver$Remote" 26 2 0 (.boolean) := ⟨"PageReceiver$Page", T_Page, 8, t_Page, cf_Page, fl_Remote_26, by decide, rfl, rfl⟩
set_option maxRecDepth 100000 in
theorem fl_Remote_36 : pg_fl "PageReceiver$Remote" 36 T_Remote 3 := Or.inl (pg_tb 117 rfl rfl)
set_option maxRecDepth 100000 in
theorem f_Remote_36 : pg_fs "PageReceiver$Remote" 36 4 3 := ⟨"PageReceiver$Remote", T_Remote, 7, t_Remote, cf_Remote, fl_Remote_36, by decide⟩
set_option maxRecDepth 100000 in
theorem fw_Remote_36 : pg_fw "PageReceiver$Remote" 36 4 3 (.int) := ⟨"PageReceiver$Remote", T_Remote, 7, t_Remote, cf_Remote, fl_Remote_36, by decide, rfl, rfl⟩
set_option maxRecDepth 100000 in
theorem fl_Remote_39 : pg_fl "PageReceiver$Remote" 39 T_Remote 4 := Or.inl (pg_tb 119 rfl rfl)
set_option maxRecDepth 100000 in
theorem f_Remote_39 : pg_fs "PageReceiver$Remote" 39 4 4 := ⟨"PageReceiver$Remote", T_Remote, 7, t_Remote, cf_Remote, fl_Remote_39, by decide⟩
set_option maxRecDepth 100000 in
theorem fw_Remote_39 : pg_fw "PageReceiver$Remote" 39 4 4 (.int) := ⟨"PageReceiver$Remote", T_Remote, 7, t_Remote, cf_Remote, fl_Remote_39, by decide, rfl, rfl⟩
set_option maxRecDepth 100000 in
theorem fl_Remote_42 : pg_fl "PageReceiver$Remote" 42 T_Remote 5 := Or.inl (pg_tb 120 rfl rfl)
set_option maxRecDepth 100000 in
theorem f_Remote_42 : pg_fs "PageReceiver$Remote" 42 4 5 := ⟨"PageReceiver$Remote", T_Remote, 7, t_Remote, cf_Remote, fl_Remote_42, by decide⟩
set_option maxRecDepth 100000 in
theorem fw_Remote_42 : pg_fw "PageReceiver$Remote" 42 4 5 (.int) := ⟨"PageReceiver$Remote", T_Remote, 7, t_Remote, cf_Remote, fl_Remote_42, by decide, rfl, rfl⟩
set_option maxRecDepth 100000 in
theorem fl_Remote_53 : pg_fl "PageReceiver$Remote" 53 T_Remote 6 := Or.inl (pg_tb 121 rfl rfl)
set_option maxRecDepth 100000 in
theorem f_Remote_53 : pg_fs "PageReceiver$Remote" 53 4 6 := ⟨"PageReceiver$Remote", T_Remote, 7, t_Remote, cf_Remote, fl_Remote_53, by decide⟩
set_option maxRecDepth 100000 in
theorem fw_Remote_53 : pg_fw "PageReceiver$Remote" 53 4 6 (.boolean) := ⟨"PageReceiver$Remote", T_Remote, 7, t_Remote, cf_Remote, fl_Remote_53, by decide, rfl, rfl⟩
set_option maxRecDepth 100000 in
theorem fl_Screen_12 : pg_fl "PageReceiver$Screen" 12 T_Screen 2 := Or.inl (pg_tb 231 rfl rfl)
set_option maxRecDepth 100000 in
theorem f_Screen_12 : pg_fs "PageReceiver$Screen" 12 7 2 := ⟨"PageReceiver$Screen", T_Screen, 8, t_Screen, cf_Screen, fl_Screen_12, by decide⟩
set_option maxRecDepth 100000 in
theorem fl_Screen_18 : pg_fl "PageReceiver$Screen" 18 T_Screen 3 := Or.inl (pg_tb 232 rfl rfl)
set_option maxRecDepth 100000 in
theorem f_Screen_18 : pg_fs "PageReceiver$Screen" 18 7 3 := ⟨"PageReceiver$Screen", T_Screen, 8, t_Screen, cf_Screen, fl_Screen_18, by decide⟩
set_option maxRecDepth 100000 in
theorem fw_Screen_18 : pg_fw "PageReceiver$Screen" 18 7 3 (.boolean) := ⟨"PageReceiver$Screen", T_Screen, 8, t_Screen, cf_Screen, fl_Screen_18, by decide, rfl, rfl⟩
set_option maxRecDepth 100000 in
theorem fl_Screen_22 : pg_fl "PageReceiver$Screen" 22 T_Screen 0 := Or.inl (pg_tb 229 rfl rfl)
set_option maxRecDepth 100000 in
theorem f_Screen_22 : pg_fs "PageReceiver$Screen" 22 7 0 := ⟨"PageReceiver$Screen", T_Screen, 8, t_Screen, cf_Screen, fl_Screen_22, by decide⟩
set_option maxRecDepth 100000 in
theorem fl_Screen_26 : pg_fl "PageReceiver$Screen" 26 T_Screen 1 := Or.inl (pg_tb 230 rfl rfl)
set_option maxRecDepth 100000 in
theorem f_Screen_26 : pg_fs "PageReceiver$Screen" 26 7 1 := ⟨"PageReceiver$Screen", T_Screen, 8, t_Screen, cf_Screen, fl_Screen_26, by decide⟩
set_option maxRecDepth 100000 in
theorem fl_Screen_66 : pg_fl "PageReceiver$Screen" 66 T_Remote 2 := Or.inr ⟨"PageReceiver", List.mem_of_getElem? (i := 13) rfl⟩
set_option maxRecDepth 100000 in
theorem f_Screen_66 : pg_fs "PageReceiver$Screen" 66 4 2 := ⟨"PageReceiver$Remote", T_Remote, 7, t_Remote, cf_Remote, fl_Screen_66, by decide⟩
set_option maxRecDepth 100000 in
theorem fw_Screen_66 : pg_fw "PageReceiver$Screen" 66 4 2 (.int) := ⟨"PageReceiver$Remote", T_Remote, 7, t_Remote, cf_Remote, fl_Screen_66, by decide, rfl, rfl⟩
set_option maxRecDepth 100000 in
theorem fl_Screen_85 : pg_fl "PageReceiver$Screen" 85 T_Page 3 := Or.inr ⟨"PageReceiver", List.mem_of_getElem? (i := 9) rfl⟩
set_option maxRecDepth 100000 in
theorem f_Screen_85 : pg_fs "PageReceiver$Screen" 85 2 3 := ⟨"PageReceiver$Page", T_Page, 8, t_Page, cf_Page, fl_Screen_85, by decide⟩
set_option maxRecDepth 100000 in
theorem fw_Screen_85 : pg_fw "PageReceiver$Screen" 85 2 3 (.int) := ⟨"PageReceiver$Page", T_Page, 8, t_Page, cf_Page, fl_Screen_85, by decide, rfl, rfl⟩
set_option maxRecDepth 100000 in
theorem fl_Screen_98 : pg_fl "PageReceiver$Screen" 98 T_States 8 := Or.inr ⟨"PageReceiver", List.mem_of_getElem? (i := 27) rfl⟩
set_option maxRecDepth 100000 in
theorem f_Screen_98 : pg_fs "PageReceiver$Screen" 98 6 8 := ⟨"PageReceiver$States", T_States, 11, t_States, cf_States, fl_Screen_98, by decide⟩
set_option maxRecDepth 100000 in
theorem fw_Screen_98 : pg_fw "PageReceiver$Screen" 98 6 8 (.boolean) := ⟨"PageReceiver$States", T_States, 11, t_States, cf_States, fl_Screen_98, by decide, rfl, rfl⟩
set_option maxRecDepth 100000 in
theorem fl_Screen_101 : pg_fl "PageReceiver$Screen" 101 T_States 2 := Or.inr ⟨"PageReceiver", List.mem_of_getElem? (i := 22) rfl⟩
set_option maxRecDepth 100000 in
theorem f_Screen_101 : pg_fs "PageReceiver$Screen" 101 6 2 := ⟨"PageReceiver$States", T_States, 11, t_States, cf_States, fl_Screen_101, by decide⟩
set_option maxRecDepth 100000 in
theorem fw_Screen_101 : pg_fw "PageReceiver$Screen" 101 6 2 (.boolean) := ⟨"PageReceiver$States", T_States, 11, t_States, cf_States, fl_Screen_101, by decide, rfl, rfl⟩
set_option maxRecDepth 100000 in
theorem fl_Screen_104 : pg_fl "PageReceiver$Screen" 104 T_States 9 := Or.inr ⟨"PageReceiver", List.mem_of_getElem? (i := 28) rfl⟩
set_option maxRecDepth 100000 in
theorem f_Screen_104 : pg_fs "PageReceiver$Screen" 104 6 9 := ⟨"PageReceiver$States", T_States, 11, t_States, cf_States, fl_Screen_104, by decide⟩
set_option maxRecDepth 100000 in
theorem fw_Screen_104 : pg_fw "PageReceiver$Screen" 104 6 9 (.int) := ⟨"PageReceiver$States", T_States, 11, t_States, cf_States, fl_Screen_104, by decide, rfl, rfl⟩
set_option maxRecDepth 100000 in
theorem fl_Screen_107 : pg_fl "PageReceiver$Screen" 107 T_States 10 := Or.inr ⟨"PageReceiver", List.mem_of_getElem? (i := 29) rfl⟩
set_option maxRecDepth 100000 in
theorem f_Screen_107 : pg_fs "PageReceiver$Screen" 107 6 10 := ⟨"PageReceiver$States", T_States, 11, t_States, cf_States, fl_Screen_107, by decide⟩
set_option maxRecDepth 100000 in
theorem fw_Screen_107 : pg_fw "PageReceiver$Screen" 107 6 10 (.boolean) := ⟨"PageReceiver$States", T_States, 11, t_States, cf_States, fl_Screen_107, by decide, rfl, rfl⟩
set_option maxRecDepth 100000 in
theorem fl_Screen_117 : pg_fl "PageReceiver$Screen" 117 T_States 7 := Or.inr ⟨"PageReceiver", List.mem_of_getElem? (i := 26) rfl⟩
set_option maxRecDepth 100000 in
theorem f_Screen_117 : pg_fs "PageReceiver$Screen" 117 6 7 := ⟨"PageReceiver$States", T_States, 11, t_States, cf_States, fl_Screen_117, by decide⟩
set_option maxRecDepth 100000 in
theorem fw_Screen_117 : pg_fw "PageReceiver$Screen" 117 6 7 (.boolean) := ⟨"PageReceiver$States", T_States, 11, t_States, cf_States, fl_Screen_117, by decide, rfl, rfl⟩
set_option maxRecDepth 100000 in
theorem fl_Screen_126 : pg_fl "PageReceiver$Screen" 126 T_Screen 4 := Or.inl (pg_tb 235 rfl rfl)
set_option maxRecDepth 100000 in
theorem f_Screen_126 : pg_fs "PageReceiver$Screen" 126 7 4 := ⟨"PageReceiver$Screen", T_Screen, 8, t_Screen, cf_Screen, fl_Screen_126, by decide⟩
set_option maxRecDepth 100000 in
theorem fw_Screen_126 : pg_fw "PageReceiver$Screen" 126 7 4 (.int) := ⟨"PageReceiver$Screen", T_Screen, 8, t_Screen, cf_Screen, fl_Screen_126, by decide, rfl, rfl⟩
set_option maxRecDepth 100000 in
theorem fl_Screen_129 : pg_fl "PageReceiver$Screen" 129 T_Screen 7 := Or.inl (pg_tb 241 rfl rfl)
set_option maxRecDepth 100000 in
theorem f_Screen_129 : pg_fs "PageReceiver$Screen" 129 7 7 := ⟨"PageReceiver$Screen", T_Screen, 8, t_Screen, cf_Screen, fl_Screen_129, by decide⟩
set_option maxRecDepth 100000 in
theorem fw_Screen_129 : pg_fw "PageReceiver$Screen" 129 7 7 (.int) := ⟨"PageReceiver$Screen", T_Screen, 8, t_Screen, cf_Screen, fl_Screen_129, by decide, rfl, rfl⟩
set_option maxRecDepth 100000 in
theorem fl_Screen_132 : pg_fl "PageReceiver$Screen" 132 T_States 3 := Or.inr ⟨"PageReceiver", List.mem_of_getElem? (i := 23) rfl⟩
set_option maxRecDepth 100000 in
theorem f_Screen_132 : pg_fs "PageReceiver$Screen" 132 6 3 := ⟨"PageReceiver$States", T_States, 11, t_States, cf_States, fl_Screen_132, by decide⟩
set_option maxRecDepth 100000 in
theorem fw_Screen_132 : pg_fw "PageReceiver$Screen" 132 6 3 (.boolean) := ⟨"PageReceiver$States", T_States, 11, t_States, cf_States, fl_Screen_132, by decide, rfl, rfl⟩
set_option maxRecDepth 100000 in
theorem fl_Screen_135 : pg_fl "PageReceiver$Screen" 135 T_States 4 := Or.inr ⟨"PageReceiver", List.mem_of_getElem? (i := 24) rfl⟩
set_option maxRecDepth 100000 in
theorem f_Screen_135 : pg_fs "PageReceiver$Screen" 135 6 4 := ⟨"PageReceiver$States", T_States, 11, t_States, cf_States, fl_Screen_135, by decide⟩
set_option maxRecDepth 100000 in
theorem fw_Screen_135 : pg_fw "PageReceiver$Screen" 135 6 4 (.boolean) := ⟨"PageReceiver$States", T_States, 11, t_States, cf_States, fl_Screen_135, by decide, rfl, rfl⟩
set_option maxRecDepth 100000 in
theorem fl_Screen_138 : pg_fl "PageReceiver$Screen" 138 T_Remote 6 := Or.inr ⟨"PageReceiver", List.mem_of_getElem? (i := 18) rfl⟩
set_option maxRecDepth 100000 in
theorem f_Screen_138 : pg_fs "PageReceiver$Screen" 138 4 6 := ⟨"PageReceiver$Remote", T_Remote, 7, t_Remote, cf_Remote, fl_Screen_138, by decide⟩
set_option maxRecDepth 100000 in
theorem fw_Screen_138 : pg_fw "PageReceiver$Screen" 138 4 6 (.boolean) := ⟨"PageReceiver$Remote", T_Remote, 7, t_Remote, cf_Remote, fl_Screen_138, by decide, rfl, rfl⟩
set_option maxRecDepth 100000 in
theorem fl_Screen_141 : pg_fl "PageReceiver$Screen" 141 T_States 0 := Or.inr ⟨"PageReceiver", List.mem_of_getElem? (i := 20) rfl⟩
set_option maxRecDepth 100000 in
theorem f_Screen_141 : pg_fs "PageReceiver$Screen" 141 6 0 := ⟨"PageReceiver$States", T_States, 11, t_States, cf_States, fl_Screen_141, by decide⟩
set_option maxRecDepth 100000 in
theorem fw_Screen_141 : pg_fw "PageReceiver$Screen" 141 6 0 (.int) := ⟨"PageReceiver$States", T_States, 11, t_States, cf_States, fl_Screen_141, by decide, rfl, rfl⟩
set_option maxRecDepth 100000 in
theorem fl_Screen_144 : pg_fl "PageReceiver$Screen" 144 T_Screen 5 := Or.inl (pg_tb 237 rfl rfl)
set_option maxRecDepth 100000 in
theorem f_Screen_144 : pg_fs "PageReceiver$Screen" 144 7 5 := ⟨"PageReceiver$Screen", T_Screen, 8, t_Screen, cf_Screen, fl_Screen_144, by decide⟩
set_option maxRecDepth 100000 in
theorem fw_Screen_144 : pg_fw "PageReceiver$Screen" 144 7 5 (.int) := ⟨"PageReceiver$Screen", T_Screen, 8, t_Screen, cf_Screen, fl_Screen_144, by decide, rfl, rfl⟩
set_option maxRecDepth 100000 in
theorem fl_Screen_145 : pg_fl "PageReceiver$Screen" 145 T_States 1 := Or.inr ⟨"PageReceiver", List.mem_of_getElem? (i := 21) rfl⟩
set_option maxRecDepth 100000 in
theorem f_Screen_145 : pg_fs "PageReceiver$Screen" 145 6 1 := ⟨"PageReceiver$States", T_States, 11, t_States, cf_States, fl_Screen_145, by decide⟩
set_option maxRecDepth 100000 in
theorem fw_Screen_145 : pg_fw "PageReceiver$Screen" 145 6 1 (.int) := ⟨"PageReceiver$States", T_States, 11, t_States, cf_States, fl_Screen_145, by decide, rfl, rfl⟩
set_option maxRecDepth 100000 in
theorem fl_Screen_148 : pg_fl "PageReceiver$Screen" 148 T_Screen 6 := Or.inl (pg_tb 239 rfl rfl)
set_option maxRecDepth 100000 in
theorem f_Screen_148 : pg_fs "PageReceiver$Screen" 148 7 6 := ⟨"PageReceiver$Screen", T_Screen, 8, t_Screen, cf_Screen, fl_Screen_148, by decide⟩
set_option maxRecDepth 100000 in
theorem fw_Screen_148 : pg_fw "PageReceiver$Screen" 148 7 6 (.int) := ⟨"PageReceiver$Screen", T_Screen, 8, t_Screen, cf_Screen, fl_Screen_148, by decide, rfl, rfl⟩
set_option maxRecDepth 100000 in
theorem fl_Screen_152 : pg_fl "PageReceiver$Screen" 152 T_States 6 := Or.inr ⟨"PageReceiver", List.mem_of_getElem? (i := 25) rfl⟩
set_option maxRecDepth 100000 in
theorem f_Screen_152 : pg_fs "PageReceiver$Screen" 152 6 6 := ⟨"PageReceiver$States", T_States, 11, t_States, cf_States, fl_Screen_152, by decide⟩
set_option maxRecDepth 100000 in
theorem fw_Screen_152 : pg_fw "PageReceiver$Screen" 152 6 6 (.boolean) := ⟨"PageReceiver$States", T_States, 11, t_States, cf_States, fl_Screen_152, by decide, rfl, rfl⟩
set_option maxRecDepth 100000 in
theorem fl_Shelf_9 : pg_fl "PageReceiver$Shelf" 9 T_Shelf 1 := Or.inl (pg_tb 96 rfl rfl)
set_option maxRecDepth 100000 in
theorem f_Shelf_9 : pg_fs "PageReceiver$Shelf" 9 3 1 := ⟨"PageReceiver$Shelf", T_Shelf, 2, t_Shelf, cf_Shelf, fl_Shelf_9, by decide⟩
set_option maxRecDepth 100000 in
theorem fl_Shelf_17 : pg_fl "PageReceiver$Shelf" 17 T_Shelf 0 := Or.inl (pg_tb 95 rfl rfl)
set_option maxRecDepth 100000 in
theorem f_Shelf_17 : pg_fs "PageReceiver$Shelf" 17 3 0 := ⟨"PageReceiver$Shelf", T_Shelf, 2, t_Shelf, cf_Shelf, fl_Shelf_17, by decide⟩
set_option maxRecDepth 100000 in
theorem fl_Shelf_22 : pg_fl "PageReceiver$Shelf" 22 T_Page 0 := Or.inr ⟨"PageReceiver", List.mem_of_getElem? (i := 2) rfl⟩
set_option maxRecDepth 100000 in
theorem f_Shelf_22 : pg_fs "PageReceiver$Shelf" 22 2 0 := ⟨"PageReceiver$Page", T_Page, 8, t_Page, cf_Page, fl_Shelf_22, by decide⟩
set_option maxRecDepth 100000 in
theorem fw_Shelf_22 : pg_fw "PageReceiver$Shelf" 22 2 0 (.boolean) := ⟨"PageReceiver$Page", T_Page, 8, t_Page, cf_Page, fl_Shelf_22, by decide, rfl, rfl⟩
set_option maxRecDepth 100000 in
theorem fl_Shelf_26 : pg_fl "PageReceiver$Shelf" 26 T_Page 1 := Or.inr ⟨"PageReceiver", List.mem_of_getElem? (i := 5) rfl⟩
set_option maxRecDepth 100000 in
theorem f_Shelf_26 : pg_fs "PageReceiver$Shelf" 26 2 1 := ⟨"PageReceiver$Page", T_Page, 8, t_Page, cf_Page, fl_Shelf_26, by decide⟩
set_option maxRecDepth 100000 in
theorem fw_Shelf_26 : pg_fw "PageReceiver$Shelf" 26 2 1 (.int) := ⟨"PageReceiver$Page", T_Page, 8, t_Page, cf_Page, fl_Shelf_26, by decide, rfl, rfl⟩
set_option maxRecDepth 100000 in
theorem fl_Shelf_38 : pg_fl "PageReceiver$Shelf" 38 T_Page 4 := Or.inr ⟨"PageReceiver", List.mem_of_getElem? (i := 10) rfl⟩
set_option maxRecDepth 100000 in
theorem f_Shelf_38 : pg_fs "PageReceiver$Shelf" 38 2 4 := ⟨"PageReceiver$Page", T_Page, 8, t_Page, cf_Page, fl_Shelf_38, by decide⟩
set_option maxRecDepth 100000 in
theorem fw_Shelf_38 : pg_fw "PageReceiver$Shelf" 38 2 4 (.int) := ⟨"PageReceiver$Page", T_Page, 8, t_Page, cf_Page, fl_Shelf_38, by decide, rfl, rfl⟩
set_option maxRecDepth 100000 in
theorem fl_States_9 : pg_fl "PageReceiver$States" 9 T_States 0 := Or.inl (pg_tb 185 rfl rfl)
set_option maxRecDepth 100000 in
theorem f_States_9 : pg_fs "PageReceiver$States" 9 6 0 := ⟨"PageReceiver$States", T_States, 11, t_States, cf_States, fl_States_9, by decide⟩
set_option maxRecDepth 100000 in
theorem fw_States_9 : pg_fw "PageReceiver$States" 9 6 0 (.int) := ⟨"PageReceiver$States", T_States, 11, t_States, cf_States, fl_States_9, by decide, rfl, rfl⟩
set_option maxRecDepth 100000 in
theorem fl_States_15 : pg_fl "PageReceiver$States" 15 T_States 1 := Or.inl (pg_tb 187 rfl rfl)
set_option maxRecDepth 100000 in
theorem f_States_15 : pg_fs "PageReceiver$States" 15 6 1 := ⟨"PageReceiver$States", T_States, 11, t_States, cf_States, fl_States_15, by decide⟩
set_option maxRecDepth 100000 in
theorem fw_States_15 : pg_fw "PageReceiver$States" 15 6 1 (.int) := ⟨"PageReceiver$States", T_States, 11, t_States, cf_States, fl_States_15, by decide, rfl, rfl⟩
set_option maxRecDepth 100000 in
theorem fl_States_18 : pg_fl "PageReceiver$States" 18 T_States 2 := Or.inl (pg_tb 189 rfl rfl)
set_option maxRecDepth 100000 in
theorem f_States_18 : pg_fs "PageReceiver$States" 18 6 2 := ⟨"PageReceiver$States", T_States, 11, t_States, cf_States, fl_States_18, by decide⟩
set_option maxRecDepth 100000 in
theorem fw_States_18 : pg_fw "PageReceiver$States" 18 6 2 (.boolean) := ⟨"PageReceiver$States", T_States, 11, t_States, cf_States, fl_States_18, by decide, rfl, rfl⟩
set_option maxRecDepth 100000 in
theorem fl_States_22 : pg_fl "PageReceiver$States" 22 T_States 3 := Or.inl (pg_tb 191 rfl rfl)
set_option maxRecDepth 100000 in
theorem f_States_22 : pg_fs "PageReceiver$States" 22 6 3 := ⟨"PageReceiver$States", T_States, 11, t_States, cf_States, fl_States_22, by decide⟩
set_option maxRecDepth 100000 in
theorem fw_States_22 : pg_fw "PageReceiver$States" 22 6 3 (.boolean) := ⟨"PageReceiver$States", T_States, 11, t_States, cf_States, fl_States_22, by decide, rfl, rfl⟩
set_option maxRecDepth 100000 in
theorem fl_States_25 : pg_fl "PageReceiver$States" 25 T_States 4 := Or.inl (pg_tb 193 rfl rfl)
set_option maxRecDepth 100000 in
theorem f_States_25 : pg_fs "PageReceiver$States" 25 6 4 := ⟨"PageReceiver$States", T_States, 11, t_States, cf_States, fl_States_25, by decide⟩
set_option maxRecDepth 100000 in
theorem fw_States_25 : pg_fw "PageReceiver$States" 25 6 4 (.boolean) := ⟨"PageReceiver$States", T_States, 11, t_States, cf_States, fl_States_25, by decide, rfl, rfl⟩
set_option maxRecDepth 100000 in
theorem fl_States_28 : pg_fl "PageReceiver$States" 28 T_States 5 := Or.inl (pg_tb 195 rfl rfl)
set_option maxRecDepth 100000 in
theorem f_States_28 : pg_fs "PageReceiver$States" 28 6 5 := ⟨"PageReceiver$States", T_States, 11, t_States, cf_States, fl_States_28, by decide⟩
set_option maxRecDepth 100000 in
theorem fw_States_28 : pg_fw "PageReceiver$States" 28 6 5 (.boolean) := ⟨"PageReceiver$States", T_States, 11, t_States, cf_States, fl_States_28, by decide, rfl, rfl⟩
set_option maxRecDepth 100000 in
theorem fl_States_31 : pg_fl "PageReceiver$States" 31 T_States 6 := Or.inl (pg_tb 196 rfl rfl)
set_option maxRecDepth 100000 in
theorem f_States_31 : pg_fs "PageReceiver$States" 31 6 6 := ⟨"PageReceiver$States", T_States, 11, t_States, cf_States, fl_States_31, by decide⟩
set_option maxRecDepth 100000 in
theorem fw_States_31 : pg_fw "PageReceiver$States" 31 6 6 (.boolean) := ⟨"PageReceiver$States", T_States, 11, t_States, cf_States, fl_States_31, by decide, rfl, rfl⟩
set_option maxRecDepth 100000 in
theorem fl_States_34 : pg_fl "PageReceiver$States" 34 T_States 7 := Or.inl (pg_tb 198 rfl rfl)
set_option maxRecDepth 100000 in
theorem f_States_34 : pg_fs "PageReceiver$States" 34 6 7 := ⟨"PageReceiver$States", T_States, 11, t_States, cf_States, fl_States_34, by decide⟩
set_option maxRecDepth 100000 in
theorem fw_States_34 : pg_fw "PageReceiver$States" 34 6 7 (.boolean) := ⟨"PageReceiver$States", T_States, 11, t_States, cf_States, fl_States_34, by decide, rfl, rfl⟩
set_option maxRecDepth 100000 in
theorem fl_States_37 : pg_fl "PageReceiver$States" 37 T_States 8 := Or.inl (pg_tb 200 rfl rfl)
set_option maxRecDepth 100000 in
theorem f_States_37 : pg_fs "PageReceiver$States" 37 6 8 := ⟨"PageReceiver$States", T_States, 11, t_States, cf_States, fl_States_37, by decide⟩
set_option maxRecDepth 100000 in
theorem fw_States_37 : pg_fw "PageReceiver$States" 37 6 8 (.boolean) := ⟨"PageReceiver$States", T_States, 11, t_States, cf_States, fl_States_37, by decide, rfl, rfl⟩
set_option maxRecDepth 100000 in
theorem fl_States_44 : pg_fl "PageReceiver$States" 44 T_States 9 := Or.inl (pg_tb 202 rfl rfl)
set_option maxRecDepth 100000 in
theorem f_States_44 : pg_fs "PageReceiver$States" 44 6 9 := ⟨"PageReceiver$States", T_States, 11, t_States, cf_States, fl_States_44, by decide⟩
set_option maxRecDepth 100000 in
theorem fw_States_44 : pg_fw "PageReceiver$States" 44 6 9 (.int) := ⟨"PageReceiver$States", T_States, 11, t_States, cf_States, fl_States_44, by decide, rfl, rfl⟩
set_option maxRecDepth 100000 in
theorem fl_States_47 : pg_fl "PageReceiver$States" 47 T_States 10 := Or.inl (pg_tb 204 rfl rfl)
set_option maxRecDepth 100000 in
theorem f_States_47 : pg_fs "PageReceiver$States" 47 6 10 := ⟨"PageReceiver$States", T_States, 11, t_States, cf_States, fl_States_47, by decide⟩
set_option maxRecDepth 100000 in
theorem fw_States_47 : pg_fw "PageReceiver$States" 47 6 10 (.boolean) := ⟨"PageReceiver$States", T_States, 11, t_States, cf_States, fl_States_47, by decide, rfl, rfl⟩
set_option maxRecDepth 100000 in
theorem fl_Tuner_11 : pg_fl "PageReceiver$Tuner" 11 T_Tuner 4 := Or.inl (pg_tb 154 rfl rfl)
set_option maxRecDepth 100000 in
theorem f_Tuner_11 : pg_fs "PageReceiver$Tuner" 11 5 4 := ⟨"PageReceiver$Tuner", T_Tuner, 7, t_Tuner, cf_Tuner, fl_Tuner_11, by decide⟩
set_option maxRecDepth 100000 in
theorem fl_Tuner_17 : pg_fl "PageReceiver$Tuner" 17 T_Tuner 5 := Or.inl (pg_tb 155 rfl rfl)
set_option maxRecDepth 100000 in
theorem f_Tuner_17 : pg_fs "PageReceiver$Tuner" 17 5 5 := ⟨"PageReceiver$Tuner", T_Tuner, 7, t_Tuner, cf_Tuner, fl_Tuner_17, by decide⟩
set_option maxRecDepth 100000 in
theorem fl_Tuner_21 : pg_fl "PageReceiver$Tuner" 21 T_Tuner 6 := Or.inl (pg_tb 157 rfl rfl)
set_option maxRecDepth 100000 in
theorem f_Tuner_21 : pg_fs "PageReceiver$Tuner" 21 5 6 := ⟨"PageReceiver$Tuner", T_Tuner, 7, t_Tuner, cf_Tuner, fl_Tuner_21, by decide⟩
set_option maxRecDepth 100000 in
theorem fl_Tuner_24 : pg_fl "PageReceiver$Tuner" 24 T_Tuner 0 := Or.inl (pg_tb 150 rfl rfl)
set_option maxRecDepth 100000 in
theorem f_Tuner_24 : pg_fs "PageReceiver$Tuner" 24 5 0 := ⟨"PageReceiver$Tuner", T_Tuner, 7, t_Tuner, cf_Tuner, fl_Tuner_24, by decide⟩
set_option maxRecDepth 100000 in
theorem fl_Tuner_28 : pg_fl "PageReceiver$Tuner" 28 T_Tuner 1 := Or.inl (pg_tb 151 rfl rfl)
set_option maxRecDepth 100000 in
theorem f_Tuner_28 : pg_fs "PageReceiver$Tuner" 28 5 1 := ⟨"PageReceiver$Tuner", T_Tuner, 7, t_Tuner, cf_Tuner, fl_Tuner_28, by decide⟩
set_option maxRecDepth 100000 in
theorem fl_Tuner_32 : pg_fl "PageReceiver$Tuner" 32 T_Tuner 2 := Or.inl (pg_tb 152 rfl rfl)
set_option maxRecDepth 100000 in
theorem f_Tuner_32 : pg_fs "PageReceiver$Tuner" 32 5 2 := ⟨"PageReceiver$Tuner", T_Tuner, 7, t_Tuner, cf_Tuner, fl_Tuner_32, by decide⟩
set_option maxRecDepth 100000 in
theorem fl_Tuner_36 : pg_fl "PageReceiver$Tuner" 36 T_Tuner 3 := Or.inl (pg_tb 153 rfl rfl)
set_option maxRecDepth 100000 in
theorem f_Tuner_36 : pg_fs "PageReceiver$Tuner" 36 5 3 := ⟨"PageReceiver$Tuner", T_Tuner, 7, t_Tuner, cf_Tuner, fl_Tuner_36, by decide⟩
set_option maxRecDepth 100000 in
theorem fl_Tuner_56 : pg_fl "PageReceiver$Tuner" 56 T_Page 0 := Or.inr ⟨"PageReceiver", List.mem_of_getElem? (i := 3) rfl⟩
set_option maxRecDepth 100000 in
theorem f_Tuner_56 : pg_fs "PageReceiver$Tuner" 56 2 0 := ⟨"PageReceiver$Page", T_Page, 8, t_Page, cf_Page, fl_Tuner_56, by decide⟩
set_option maxRecDepth 100000 in
theorem fw_Tuner_56 : pg_fw "PageReceiver$Tuner" 56 2 0 (.boolean) := ⟨"PageReceiver$Page", T_Page, 8, t_Page, cf_Page, fl_Tuner_56, by decide, rfl, rfl⟩
set_option maxRecDepth 100000 in
theorem fl_Tuner_90 : pg_fl "PageReceiver$Tuner" 90 T_Remote 2 := Or.inr ⟨"PageReceiver", List.mem_of_getElem? (i := 14) rfl⟩
set_option maxRecDepth 100000 in
theorem f_Tuner_90 : pg_fs "PageReceiver$Tuner" 90 4 2 := ⟨"PageReceiver$Remote", T_Remote, 7, t_Remote, cf_Remote, fl_Tuner_90, by decide⟩
set_option maxRecDepth 100000 in
theorem fw_Tuner_90 : pg_fw "PageReceiver$Tuner" 90 4 2 (.int) := ⟨"PageReceiver$Remote", T_Remote, 7, t_Remote, cf_Remote, fl_Tuner_90, by decide, rfl, rfl⟩
set_option maxRecDepth 100000 in
theorem fl_Tuner_111 : pg_fl "PageReceiver$Tuner" 111 T_Page 2 := Or.inr ⟨"PageReceiver", List.mem_of_getElem? (i := 7) rfl⟩
set_option maxRecDepth 100000 in
theorem f_Tuner_111 : pg_fs "PageReceiver$Tuner" 111 2 2 := ⟨"PageReceiver$Page", T_Page, 8, t_Page, cf_Page, fl_Tuner_111, by decide⟩
set_option maxRecDepth 100000 in
theorem fw_Tuner_111 : pg_fw "PageReceiver$Tuner" 111 2 2 (.int) := ⟨"PageReceiver$Page", T_Page, 8, t_Page, cf_Page, fl_Tuner_111, by decide, rfl, rfl⟩
set_option maxRecDepth 100000 in
theorem fl_Tuner_114 : pg_fl "PageReceiver$Tuner" 114 T_Page 3 := Or.inr ⟨"PageReceiver", List.mem_of_getElem? (i := 8) rfl⟩
set_option maxRecDepth 100000 in
theorem f_Tuner_114 : pg_fs "PageReceiver$Tuner" 114 2 3 := ⟨"PageReceiver$Page", T_Page, 8, t_Page, cf_Page, fl_Tuner_114, by decide⟩
set_option maxRecDepth 100000 in
theorem fw_Tuner_114 : pg_fw "PageReceiver$Tuner" 114 2 3 (.int) := ⟨"PageReceiver$Page", T_Page, 8, t_Page, cf_Page, fl_Tuner_114, by decide, rfl, rfl⟩
set_option maxRecDepth 100000 in
theorem fl_Tuner_134 : pg_fl "PageReceiver$Tuner" 134 T_Page 7 := Or.inr ⟨"PageReceiver", List.mem_of_getElem? (i := 11) rfl⟩
set_option maxRecDepth 100000 in
theorem f_Tuner_134 : pg_fs "PageReceiver$Tuner" 134 2 7 := ⟨"PageReceiver$Page", T_Page, 8, t_Page, cf_Page, fl_Tuner_134, by decide⟩
set_option maxRecDepth 100000 in
theorem fl_Mod_7 : pg_fl "PageReceiverModel" 7 T_Mod 1 := Or.inl (pg_tb 615 rfl rfl)
set_option maxRecDepth 100000 in
theorem f_Mod_7 : pg_fs "PageReceiverModel" 7 8 1 := ⟨"PageReceiverModel", T_Mod, 37, t_Mod, cf_Mod, fl_Mod_7, by decide⟩
set_option maxRecDepth 100000 in
theorem fl_Mod_13 : pg_fl "PageReceiverModel" 13 T_Mod 2 := Or.inl (pg_tb 616 rfl rfl)
set_option maxRecDepth 100000 in
theorem f_Mod_13 : pg_fs "PageReceiverModel" 13 8 2 := ⟨"PageReceiverModel", T_Mod, 37, t_Mod, cf_Mod, fl_Mod_13, by decide⟩
set_option maxRecDepth 100000 in
theorem fl_Mod_17 : pg_fl "PageReceiverModel" 17 T_Mod 3 := Or.inl (pg_tb 617 rfl rfl)
set_option maxRecDepth 100000 in
theorem f_Mod_17 : pg_fs "PageReceiverModel" 17 8 3 := ⟨"PageReceiverModel", T_Mod, 37, t_Mod, cf_Mod, fl_Mod_17, by decide⟩
set_option maxRecDepth 100000 in
theorem fl_Mod_20 : pg_fl "PageReceiverModel" 20 T_Mod 4 := Or.inl (pg_tb 618 rfl rfl)
set_option maxRecDepth 100000 in
theorem f_Mod_20 : pg_fs "PageReceiverModel" 20 8 4 := ⟨"PageReceiverModel", T_Mod, 37, t_Mod, cf_Mod, fl_Mod_20, by decide⟩
set_option maxRecDepth 100000 in
theorem fl_Mod_23 : pg_fl "PageReceiverModel" 23 T_Mod 5 := Or.inl (pg_tb 619 rfl rfl)
set_option maxRecDepth 100000 in
theorem f_Mod_23 : pg_fs "PageReceiverModel" 23 8 5 := ⟨"PageReceiverModel", T_Mod, 37, t_Mod, cf_Mod, fl_Mod_23, by decide⟩
set_option maxRecDepth 100000 in
theorem fl_Mod_26 : pg_fl "PageReceiverModel" 26 T_Mod 6 := Or.inl (pg_tb 620 rfl rfl)
set_option maxRecDepth 100000 in
theorem f_Mod_26 : pg_fs "PageReceiverModel" 26 8 6 := ⟨"PageReceiverModel", T_Mod, 37, t_Mod, cf_Mod, fl_Mod_26, by decide⟩
set_option maxRecDepth 100000 in
theorem fl_Mod_29 : pg_fl "PageReceiverModel" 29 T_Mod 7 := Or.inl (pg_tb 621 rfl rfl)
set_option maxRecDepth 100000 in
theorem f_Mod_29 : pg_fs "PageReceiverModel" 29 8 7 := ⟨"PageReceiverModel", T_Mod, 37, t_Mod, cf_Mod, fl_Mod_29, by decide⟩
set_option maxRecDepth 100000 in
theorem fl_Mod_32 : pg_fl "PageReceiverModel" 32 T_Mod 8 := Or.inl (pg_tb 622 rfl rfl)
set_option maxRecDepth 100000 in
theorem f_Mod_32 : pg_fs "PageReceiverModel" 32 8 8 := ⟨"PageReceiverModel", T_Mod, 37, t_Mod, cf_Mod, fl_Mod_32, by decide⟩
set_option maxRecDepth 100000 in
theorem fl_Mod_35 : pg_fl "PageReceiverModel" 35 T_Mod 9 := Or.inl (pg_tb 623 rfl rfl)
set_option maxRecDepth 100000 in
theorem f_Mod_35 : pg_fs "PageReceiverModel" 35 8 9 := ⟨"PageReceiverModel", T_Mod, 37, t_Mod, cf_Mod, fl_Mod_35, by decide⟩
set_option maxRecDepth 100000 in
theorem fl_Mod_38 : pg_fl "PageReceiverModel" 38 T_Mod 10 := Or.inl (pg_tb 624 rfl rfl)
set_option maxRecDepth 100000 in
theorem f_Mod_38 : pg_fs "PageReceiverModel" 38 8 10 := ⟨"PageReceiverModel", T_Mod, 37, t_Mod, cf_Mod, fl_Mod_38, by decide⟩
set_option maxRecDepth 100000 in
theorem fl_Mod_41 : pg_fl "PageReceiverModel" 41 T_Mod 12 := Or.inl (pg_tb 626 rfl rfl)
set_option maxRecDepth 100000 in
theorem f_Mod_41 : pg_fs "PageReceiverModel" 41 8 12 := ⟨"PageReceiverModel", T_Mod, 37, t_Mod, cf_Mod, fl_Mod_41, by decide⟩
set_option maxRecDepth 100000 in
theorem fl_Mod_44 : pg_fl "PageReceiverModel" 44 T_Mod 13 := Or.inl (pg_tb 627 rfl rfl)
set_option maxRecDepth 100000 in
theorem f_Mod_44 : pg_fs "PageReceiverModel" 44 8 13 := ⟨"PageReceiverModel", T_Mod, 37, t_Mod, cf_Mod, fl_Mod_44, by decide⟩
set_option maxRecDepth 100000 in
theorem fw_Mod_44 : pg_fw "PageReceiverModel" 44 8 13 (.int) := ⟨"PageReceiverModel", T_Mod, 37, t_Mod, cf_Mod, fl_Mod_44, by decide, rfl, rfl⟩
set_option maxRecDepth 100000 in
theorem fl_Mod_48 : pg_fl "PageReceiverModel" 48 T_Mod 18 := Or.inl (pg_tb 632 rfl rfl)
set_option maxRecDepth 100000 in
theorem f_Mod_48 : pg_fs "PageReceiverModel" 48 8 18 := ⟨"PageReceiverModel", T_Mod, 37, t_Mod, cf_Mod, fl_Mod_48, by decide⟩
set_option maxRecDepth 100000 in
theorem fw_Mod_48 : pg_fw "PageReceiverModel" 48 8 18 (.boolean) := ⟨"PageReceiverModel", T_Mod, 37, t_Mod, cf_Mod, fl_Mod_48, by decide, rfl, rfl⟩
set_option maxRecDepth 100000 in
theorem fl_Mod_52 : pg_fl "PageReceiverModel" 52 T_Mod 19 := Or.inl (pg_tb 633 rfl rfl)
set_option maxRecDepth 100000 in
theorem f_Mod_52 : pg_fs "PageReceiverModel" 52 8 19 := ⟨"PageReceiverModel", T_Mod, 37, t_Mod, cf_Mod, fl_Mod_52, by decide⟩
set_option maxRecDepth 100000 in
theorem fl_Mod_55 : pg_fl "PageReceiverModel" 55 T_Mod 20 := Or.inl (pg_tb 634 rfl rfl)
set_option maxRecDepth 100000 in
theorem f_Mod_55 : pg_fs "PageReceiverModel" 55 8 20 := ⟨"PageReceiverModel", T_Mod, 37, t_Mod, cf_Mod, fl_Mod_55, by decide⟩
set_option maxRecDepth 100000 in
theorem fl_Mod_58 : pg_fl "PageReceiverModel" 58 T_Mod 21 := Or.inl (pg_tb 635 rfl rfl)
set_option maxRecDepth 100000 in
theorem f_Mod_58 : pg_fs "PageReceiverModel" 58 8 21 := ⟨"PageReceiverModel", T_Mod, 37, t_Mod, cf_Mod, fl_Mod_58, by decide⟩
set_option maxRecDepth 100000 in
theorem fl_Mod_61 : pg_fl "PageReceiverModel" 61 T_Mod 22 := Or.inl (pg_tb 636 rfl rfl)
set_option maxRecDepth 100000 in
theorem f_Mod_61 : pg_fs "PageReceiverModel" 61 8 22 := ⟨"PageReceiverModel", T_Mod, 37, t_Mod, cf_Mod, fl_Mod_61, by decide⟩
set_option maxRecDepth 100000 in
theorem fl_Mod_64 : pg_fl "PageReceiverModel" 64 T_Mod 23 := Or.inl (pg_tb 637 rfl rfl)
set_option maxRecDepth 100000 in
theorem f_Mod_64 : pg_fs "PageReceiverModel" 64 8 23 := ⟨"PageReceiverModel", T_Mod, 37, t_Mod, cf_Mod, fl_Mod_64, by decide⟩
set_option maxRecDepth 100000 in
theorem fl_Mod_67 : pg_fl "PageReceiverModel" 67 T_Mod 24 := Or.inl (pg_tb 638 rfl rfl)
set_option maxRecDepth 100000 in
theorem f_Mod_67 : pg_fs "PageReceiverModel" 67 8 24 := ⟨"PageReceiverModel", T_Mod, 37, t_Mod, cf_Mod, fl_Mod_67, by decide⟩
set_option maxRecDepth 100000 in
theorem fl_Mod_70 : pg_fl "PageReceiverModel" 70 T_Mod 0 := Or.inl (pg_tb 614 rfl rfl)
set_option maxRecDepth 100000 in
theorem f_Mod_70 : pg_fs "PageReceiverModel" 70 8 0 := ⟨"PageReceiverModel", T_Mod, 37, t_Mod, cf_Mod, fl_Mod_70, by decide⟩
set_option maxRecDepth 100000 in
theorem fl_Mod_127 : pg_fl "PageReceiverModel" 127 T_Mod 11 := Or.inl (pg_tb 625 rfl rfl)
set_option maxRecDepth 100000 in
theorem f_Mod_127 : pg_fs "PageReceiverModel" 127 8 11 := ⟨"PageReceiverModel", T_Mod, 37, t_Mod, cf_Mod, fl_Mod_127, by decide⟩
set_option maxRecDepth 100000 in
theorem fw_Mod_127 : pg_fw "PageReceiverModel" 127 8 11 (.int) := ⟨"PageReceiverModel", T_Mod, 37, t_Mod, cf_Mod, fl_Mod_127, by decide, rfl, rfl⟩
set_option maxRecDepth 100000 in
theorem fl_Mod_135 : pg_fl "PageReceiverModel" 135 T_Mod 17 := Or.inl (pg_tb 631 rfl rfl)
set_option maxRecDepth 100000 in
theorem f_Mod_135 : pg_fs "PageReceiverModel" 135 8 17 := ⟨"PageReceiverModel", T_Mod, 37, t_Mod, cf_Mod, fl_Mod_135, by decide⟩
set_option maxRecDepth 100000 in
theorem fw_Mod_135 : pg_fw "PageReceiverModel" 135 8 17 (.boolean) := ⟨"PageReceiverModel", T_Mod, 37, t_Mod, cf_Mod, fl_Mod_135, by decide, rfl, rfl⟩
set_option maxRecDepth 100000 in
theorem fl_Mod_138 : pg_fl "PageReceiverModel" 138 T_Mod 14 := Or.inl (pg_tb 628 rfl rfl)
set_option maxRecDepth 100000 in
theorem f_Mod_138 : pg_fs "PageReceiverModel" 138 8 14 := ⟨"PageReceiverModel", T_Mod, 37, t_Mod, cf_Mod, fl_Mod_138, by decide⟩
set_option maxRecDepth 100000 in
theorem fw_Mod_138 : pg_fw "PageReceiverModel" 138 8 14 (.int) := ⟨"PageReceiverModel", T_Mod, 37, t_Mod, cf_Mod, fl_Mod_138, by decide, rfl, rfl⟩
set_option maxRecDepth 100000 in
theorem fl_Mod_141 : pg_fl "PageReceiverModel" 141 T_Mod 15 := Or.inl (pg_tb 629 rfl rfl)
set_option maxRecDepth 100000 in
theorem f_Mod_141 : pg_fs "PageReceiverModel" 141 8 15 := ⟨"PageReceiverModel", T_Mod, 37, t_Mod, cf_Mod, fl_Mod_141, by decide⟩
set_option maxRecDepth 100000 in
theorem fw_Mod_141 : pg_fw "PageReceiverModel" 141 8 15 (.int) := ⟨"PageReceiverModel", T_Mod, 37, t_Mod, cf_Mod, fl_Mod_141, by decide, rfl, rfl⟩
set_option maxRecDepth 100000 in
theorem fl_Mod_144 : pg_fl "PageReceiverModel" 144 T_Mod 16 := Or.inl (pg_tb 630 rfl rfl)
set_option maxRecDepth 100000 in
theorem f_Mod_144 : pg_fs "PageReceiverModel" 144 8 16 := ⟨"PageReceiverModel", T_Mod, 37, t_Mod, cf_Mod, fl_Mod_144, by decide⟩
set_option maxRecDepth 100000 in
theorem fw_Mod_144 : pg_fw "PageReceiverModel" 144 8 16 (.int) := ⟨"PageReceiverModel", T_Mod, 37, t_Mod, cf_Mod, fl_Mod_144, by decide, rfl, rfl⟩
set_option maxRecDepth 100000 in
theorem fl_Mod_161 : pg_fl "PageReceiverModel" 161 T_Mod 25 := Or.inl (pg_tb 639 rfl rfl)
set_option maxRecDepth 100000 in
theorem f_Mod_161 : pg_fs "PageReceiverModel" 161 8 25 := ⟨"PageReceiverModel", T_Mod, 37, t_Mod, cf_Mod, fl_Mod_161, by decide⟩
set_option maxRecDepth 100000 in
theorem fw_Mod_161 : pg_fw "PageReceiverModel" 161 8 25 (.int) := ⟨"PageReceiverModel", T_Mod, 37, t_Mod, cf_Mod, fl_Mod_161, by decide, rfl, rfl⟩
set_option maxRecDepth 100000 in
theorem fl_Mod_164 : pg_fl "PageReceiverModel" 164 T_Mod 26 := Or.inl (pg_tb 640 rfl rfl)
set_option maxRecDepth 100000 in
theorem f_Mod_164 : pg_fs "PageReceiverModel" 164 8 26 := ⟨"PageReceiverModel", T_Mod, 37, t_Mod, cf_Mod, fl_Mod_164, by decide⟩
set_option maxRecDepth 100000 in
theorem fw_Mod_164 : pg_fw "PageReceiverModel" 164 8 26 (.int) := ⟨"PageReceiverModel", T_Mod, 37, t_Mod, cf_Mod, fl_Mod_164, by decide, rfl, rfl⟩
set_option maxRecDepth 100000 in
theorem fl_Mod_167 : pg_fl "PageReceiverModel" 167 T_Mod 27 := Or.inl (pg_tb 641 rfl rfl)
set_option maxRecDepth 100000 in
theorem f_Mod_167 : pg_fs "PageReceiverModel" 167 8 27 := ⟨"PageReceiverModel", T_Mod, 37, t_Mod, cf_Mod, fl_Mod_167, by decide⟩
set_option maxRecDepth 100000 in
theorem fw_Mod_167 : pg_fw "PageReceiverModel" 167 8 27 (.boolean) := ⟨"PageReceiverModel", T_Mod, 37, t_Mod, cf_Mod, fl_Mod_167, by decide, rfl, rfl⟩
set_option maxRecDepth 100000 in
theorem fl_Mod_170 : pg_fl "PageReceiverModel" 170 T_Mod 28 := Or.inl (pg_tb 642 rfl rfl)
set_option maxRecDepth 100000 in
theorem f_Mod_170 : pg_fs "PageReceiverModel" 170 8 28 := ⟨"PageReceiverModel", T_Mod, 37, t_Mod, cf_Mod, fl_Mod_170, by decide⟩
set_option maxRecDepth 100000 in
theorem fw_Mod_170 : pg_fw "PageReceiverModel" 170 8 28 (.boolean) := ⟨"PageReceiverModel", T_Mod, 37, t_Mod, cf_Mod, fl_Mod_170, by decide, rfl, rfl⟩
set_option maxRecDepth 100000 in
theorem fl_Mod_173 : pg_fl "PageReceiverModel" 173 T_Mod 29 := Or.inl (pg_tb 643 rfl rfl)
set_option maxRecDepth 100000 in
theorem f_Mod_173 : pg_fs "PageReceiverModel" 173 8 29 := ⟨"PageReceiverModel", T_Mod, 37, t_Mod, cf_Mod, fl_Mod_173, by decide⟩
set_option maxRecDepth 100000 in
theorem fw_Mod_173 : pg_fw "PageReceiverModel" 173 8 29 (.boolean) := ⟨"PageReceiverModel", T_Mod, 37, t_Mod, cf_Mod, fl_Mod_173, by decide, rfl, rfl⟩
set_option maxRecDepth 100000 in
theorem fl_Mod_176 : pg_fl "PageReceiverModel" 176 T_Mod 30 := Or.inl (pg_tb 644 rfl rfl)
set_option maxRecDepth 100000 in
theorem f_Mod_176 : pg_fs "PageReceiverModel" 176 8 30 := ⟨"PageReceiverModel", T_Mod, 37, t_Mod, cf_Mod, fl_Mod_176, by decide⟩
set_option maxRecDepth 100000 in
theorem fw_Mod_176 : pg_fw "PageReceiverModel" 176 8 30 (.boolean) := ⟨"PageReceiverModel", T_Mod, 37, t_Mod, cf_Mod, fl_Mod_176, by decide, rfl, rfl⟩
set_option maxRecDepth 100000 in
theorem fl_Mod_179 : pg_fl "PageReceiverModel" 179 T_Mod 31 := Or.inl (pg_tb 645 rfl rfl)
set_option maxRecDepth 100000 in
theorem f_Mod_179 : pg_fs "PageReceiverModel" 179 8 31 := ⟨"PageReceiverModel", T_Mod, 37, t_Mod, cf_Mod, fl_Mod_179, by decide⟩
set_option maxRecDepth 100000 in
theorem fw_Mod_179 : pg_fw "PageReceiverModel" 179 8 31 (.boolean) := ⟨"PageReceiverModel", T_Mod, 37, t_Mod, cf_Mod, fl_Mod_179, by decide, rfl, rfl⟩
set_option maxRecDepth 100000 in
theorem fl_Mod_182 : pg_fl "PageReceiverModel" 182 T_Mod 33 := Or.inl (pg_tb 647 rfl rfl)
set_option maxRecDepth 100000 in
theorem f_Mod_182 : pg_fs "PageReceiverModel" 182 8 33 := ⟨"PageReceiverModel", T_Mod, 37, t_Mod, cf_Mod, fl_Mod_182, by decide⟩
set_option maxRecDepth 100000 in
theorem fw_Mod_182 : pg_fw "PageReceiverModel" 182 8 33 (.boolean) := ⟨"PageReceiverModel", T_Mod, 37, t_Mod, cf_Mod, fl_Mod_182, by decide, rfl, rfl⟩
set_option maxRecDepth 100000 in
theorem fl_Mod_185 : pg_fl "PageReceiverModel" 185 T_Mod 34 := Or.inl (pg_tb 648 rfl rfl)
set_option maxRecDepth 100000 in
theorem f_Mod_185 : pg_fs "PageReceiverModel" 185 8 34 := ⟨"PageReceiverModel", T_Mod, 37, t_Mod, cf_Mod, fl_Mod_185, by decide⟩
set_option maxRecDepth 100000 in
theorem fw_Mod_185 : pg_fw "PageReceiverModel" 185 8 34 (.boolean) := ⟨"PageReceiverModel", T_Mod, 37, t_Mod, cf_Mod, fl_Mod_185, by decide, rfl, rfl⟩
set_option maxRecDepth 100000 in
theorem fl_Mod_191 : pg_fl "PageReceiverModel" 191 T_Mod 35 := Or.inl (pg_tb 649 rfl rfl)
set_option maxRecDepth 100000 in
theorem f_Mod_191 : pg_fs "PageReceiverModel" 191 8 35 := ⟨"PageReceiverModel", T_Mod, 37, t_Mod, cf_Mod, fl_Mod_191, by decide⟩
set_option maxRecDepth 100000 in
theorem fw_Mod_191 : pg_fw "PageReceiverModel" 191 8 35 (.int) := ⟨"PageReceiverModel", T_Mod, 37, t_Mod, cf_Mod, fl_Mod_191, by decide, rfl, rfl⟩
set_option maxRecDepth 100000 in
theorem fl_Mod_194 : pg_fl "PageReceiverModel" 194 T_Mod 36 := Or.inl (pg_tb 650 rfl rfl)
set_option maxRecDepth 100000 in
theorem f_Mod_194 : pg_fs "PageReceiverModel" 194 8 36 := ⟨"PageReceiverModel", T_Mod, 37, t_Mod, cf_Mod, fl_Mod_194, by decide⟩
set_option maxRecDepth 100000 in
theorem fw_Mod_194 : pg_fw "PageReceiverModel" 194 8 36 (.boolean) := ⟨"PageReceiverModel", T_Mod, 37, t_Mod, cf_Mod, fl_Mod_194, by decide, rfl, rfl⟩
set_option maxRecDepth 100000 in
theorem fl_Mod_204 : pg_fl "PageReceiverModel" 204 T_Mod 32 := Or.inl (pg_tb 646 rfl rfl)
set_option maxRecDepth 100000 in
theorem f_Mod_204 : pg_fs "PageReceiverModel" 204 8 32 := ⟨"PageReceiverModel", T_Mod, 37, t_Mod, cf_Mod, fl_Mod_204, by decide⟩
set_option maxRecDepth 100000 in
theorem fw_Mod_204 : pg_fw "PageReceiverModel" 204 8 32 (.boolean) := ⟨"PageReceiverModel", T_Mod, 37, t_Mod, cf_Mod, fl_Mod_204, by decide, rfl, rfl⟩
set_option maxRecDepth 100000 in
theorem l_Recv_1 : pg_ml "PageReceiver" 1 y_JObj_init := Or.inl (pg_tb 19 rfl rfl)
set_option maxRecDepth 100000 in
theorem l_Recv_15 : pg_ml "PageReceiver" 15 y_Packet_init := Or.inl (pg_tb 24 rfl rfl)
set_option maxRecDepth 100000 in
theorem l_Recv_24 : pg_ml "PageReceiver" 24 y_JMath_min := Or.inl (pg_tb 42 rfl rfl)
set_option maxRecDepth 100000 in
theorem l_Recv_30 : pg_ml "PageReceiver" 30 y_JMath_max := Or.inl (pg_tb 45 rfl rfl)
set_option maxRecDepth 100000 in
theorem l_Recv_33 : pg_ml "PageReceiver" 33 y_Shelf_init := Or.inl (pg_tb 48 rfl rfl)
set_option maxRecDepth 100000 in
theorem l_Recv_42 : pg_ml "PageReceiver" 42 y_Remote_init := Or.inl (pg_tb 104 rfl rfl)
set_option maxRecDepth 100000 in
theorem l_Recv_51 : pg_ml "PageReceiver" 51 y_Tuner_init := Or.inl (pg_tb 141 rfl rfl)
set_option maxRecDepth 100000 in
theorem l_Recv_63 : pg_ml "PageReceiver" 63 y_Screen_init := Or.inl (pg_tb 175 rfl rfl)
set_option maxRecDepth 100000 in
theorem l_Recv_70 : pg_ml "PageReceiver" 70 y_Packet_put := Or.inl (pg_tb 282 rfl rfl)
set_option maxRecDepth 100000 in
theorem l_Recv_74 : pg_ml "PageReceiver" 74 y_Packet_isWhole := Or.inl (pg_tb 286 rfl rfl)
set_option maxRecDepth 100000 in
theorem l_Recv_78 : pg_ml "PageReceiver" 78 y_Tuner_takePacket := Or.inl (pg_tb 290 rfl rfl)
set_option maxRecDepth 100000 in
theorem l_Recv_81 : pg_ml "PageReceiver" 81 y_Packet_empty := Or.inl (pg_tb 409 rfl rfl)
set_option maxRecDepth 100000 in
theorem l_Recv_89 : pg_ml "PageReceiver" 89 y_Remote_pressDigit := Or.inl (pg_tb 421 rfl rfl)
set_option maxRecDepth 100000 in
theorem l_Recv_93 : pg_ml "PageReceiver" 93 y_Remote_pressCommand := Or.inl (pg_tb 429 rfl rfl)
set_option maxRecDepth 100000 in
theorem l_Recv_100 : pg_ml "PageReceiver" 100 y_Remote_pageShown := Or.inl (pg_tb 459 rfl rfl)
set_option maxRecDepth 100000 in
theorem l_Recv_125 : pg_ml "PageReceiver" 125 y_Shelf_pageIn := Or.inl (pg_tb 468 rfl rfl)
set_option maxRecDepth 100000 in
theorem l_Recv_129 : pg_ml "PageReceiver" 129 y_Page_tell := Or.inl (pg_tb 472 rfl rfl)
set_option maxRecDepth 100000 in
theorem l_Recv_133 : pg_ml "PageReceiver" 133 y_Recv_isCell := Or.inl (pg_tb 485 rfl rfl)
set_option maxRecDepth 100000 in
theorem l_Recv_137 : pg_ml "PageReceiver" 137 y_Screen_see := Or.inl (pg_tb 486 rfl rfl)
set_option maxRecDepth 100000 in
theorem l_Recv_153 : pg_ml "PageReceiver" 153 y_Screen_colourAt := Or.inl (pg_tb 592 rfl rfl)
set_option maxRecDepth 100000 in
theorem l_Packet_3 : pg_ml "PageReceiver$Packet" 3 y_JObj_init := Or.inl (pg_tb 27 rfl rfl)
set_option maxRecDepth 100000 in
theorem l_Packet_25 : pg_ml "PageReceiver$Packet" 25 y_Packet_byteAt := Or.inl (pg_tb 300 rfl rfl)
set_option maxRecDepth 100000 in
theorem l_Packet_29 : pg_ml "PageReceiver$Packet" 29 y_JInt_bitCount := Or.inl (pg_tb 304 rfl rfl)
set_option maxRecDepth 100000 in
theorem l_Packet_34 : pg_ml "PageReceiver$Packet" 34 y_Packet_isOdd := Or.inl (pg_tb 364 rfl rfl)
set_option maxRecDepth 100000 in
theorem l_Packet_38 : pg_ml "PageReceiver$Packet" 38 y_Packet_failingSum := Or.inl (pg_tb 390 rfl rfl)
set_option maxRecDepth 100000 in
theorem l_Packet_41 : pg_ml "PageReceiver$Packet" 41 y_Packet_bitsOf := Or.inl (pg_tb 395 rfl rfl)
set_option maxRecDepth 100000 in
theorem l_Page_3 : pg_ml "PageReceiver$Page" 3 y_JObj_init := Or.inl (pg_tb 58 rfl rfl)
set_option maxRecDepth 100000 in
theorem l_Page_29 : pg_ml "PageReceiver$Page" 29 y_JArr_fill := Or.inl (pg_tb 354 rfl rfl)
set_option maxRecDepth 100000 in
theorem l_Page_50 : pg_ml "PageReceiver$Page" 50 y_Recv_isCell := Or.inr ⟨"PageReceiver", List.mem_of_getElem? (i := 4) rfl⟩
set_option maxRecDepth 100000 in
theorem l_Page_54 : pg_ml "PageReceiver$Page" 54 y_Page_link := Or.inl (pg_tb 476 rfl rfl)
set_option maxRecDepth 100000 in
theorem l_Remote_3 : pg_ml "PageReceiver$Remote" 3 y_JObj_init := Or.inl (pg_tb 107 rfl rfl)
set_option maxRecDepth 100000 in
theorem l_Remote_11 : pg_ml "PageReceiver$Remote" 11 y_Page_init := Or.inr ⟨"PageReceiver", List.mem_of_getElem? (i := 1) rfl⟩
set_option maxRecDepth 100000 in
theorem l_Remote_30 : pg_ml "PageReceiver$Remote" 30 y_Shelf_find := Or.inl (pg_tb 441 rfl rfl)
set_option maxRecDepth 100000 in
theorem l_Remote_45 : pg_ml "PageReceiver$Remote" 45 y_Remote_want := Or.inl (pg_tb 425 rfl rfl)
set_option maxRecDepth 100000 in
theorem l_Remote_49 : pg_ml "PageReceiver$Remote" 49 y_Remote_turnHeld := Or.inl (pg_tb 433 rfl rfl)
set_option maxRecDepth 100000 in
theorem l_Remote_56 : pg_ml "PageReceiver$Remote" 56 y_Remote_followLink := Or.inl (pg_tb 443 rfl rfl)
set_option maxRecDepth 100000 in
theorem l_Remote_60 : pg_ml "PageReceiver$Remote" 60 y_Remote_pageShown := Or.inl (pg_tb 437 rfl rfl)
set_option maxRecDepth 100000 in
theorem l_Remote_64 : pg_ml "PageReceiver$Remote" 64 y_Page_link := Or.inl (pg_tb 447 rfl rfl)
set_option maxRecDepth 100000 in
theorem l_Remote_68 : pg_ml "PageReceiver$Remote" 68 y_Page_copyFrom := Or.inl (pg_tb 442 rfl rfl)
set_option maxRecDepth 100000 in
theorem l_Screen_3 : pg_ml "PageReceiver$Screen" 3 y_JObj_init := Or.inl (pg_tb 178 rfl rfl)
set_option maxRecDepth 100000 in
theorem l_Screen_11 : pg_ml "PageReceiver$Screen" 11 y_States_init := Or.inr ⟨"PageReceiver", List.mem_of_getElem? (i := 3) rfl⟩
set_option maxRecDepth 100000 in
theorem l_Screen_30 : pg_ml "PageReceiver$Screen" 30 y_Remote_pageShown := Or.inl (pg_tb 490 rfl rfl)
set_option maxRecDepth 100000 in
theorem l_Screen_36 : pg_ml "PageReceiver$Screen" 36 y_Screen_isOwn := Or.inl (pg_tb 491 rfl rfl)
set_option maxRecDepth 100000 in
theorem l_Screen_40 : pg_ml "PageReceiver$Screen" 40 y_States_begin := Or.inl (pg_tb 514 rfl rfl)
set_option maxRecDepth 100000 in
theorem l_Screen_43 : pg_ml "PageReceiver$Screen" 43 y_Screen_drawCell := Or.inl (pg_tb 522 rfl rfl)
set_option maxRecDepth 100000 in
theorem l_Screen_47 : pg_ml "PageReceiver$Screen" 47 y_Screen_turnToLowerHalf := Or.inl (pg_tb 584 rfl rfl)
set_option maxRecDepth 100000 in
theorem l_Screen_50 : pg_ml "PageReceiver$Screen" 50 y_Screen_hasDouble := Or.inl (pg_tb 495 rfl rfl)
set_option maxRecDepth 100000 in
theorem l_Screen_53 : pg_ml "PageReceiver$Screen" 53 y_Screen_letterAt := Or.inl (pg_tb 499 rfl rfl)
set_option maxRecDepth 100000 in
theorem l_Screen_57 : pg_ml "PageReceiver$Screen" 57 y_Screen_headLetter := Or.inl (pg_tb 503 rfl rfl)
set_option maxRecDepth 100000 in
theorem l_Screen_61 : pg_ml "PageReceiver$Screen" 61 y_Page_letterAt := Or.inl (pg_tb 510 rfl rfl)
set_option maxRecDepth 100000 in
theorem l_Screen_70 : pg_ml "PageReceiver$Screen" 70 y_Screen_digitLetter := Or.inl (pg_tb 507 rfl rfl)
set_option maxRecDepth 100000 in
theorem l_Screen_73 : pg_ml "PageReceiver$Screen" 73 y_Page_overlayAt := Or.inl (pg_tb 549 rfl rfl)
set_option maxRecDepth 100000 in
theorem l_Screen_76 : pg_ml "PageReceiver$Screen" 76 y_States_doAtOnce := Or.inl (pg_tb 526 rfl rfl)
set_option maxRecDepth 100000 in
theorem l_Screen_80 : pg_ml "PageReceiver$Screen" 80 y_Screen_drawMark := Or.inl (pg_tb 534 rfl rfl)
set_option maxRecDepth 100000 in
theorem l_Screen_83 : pg_ml "PageReceiver$Screen" 83 y_Screen_overlayAt := Or.inl (pg_tb 546 rfl rfl)
set_option maxRecDepth 100000 in
theorem l_Screen_88 : pg_ml "PageReceiver$Screen" 88 y_Screen_drawLetter := Or.inl (pg_tb 553 rfl rfl)
set_option maxRecDepth 100000 in
theorem l_Screen_92 : pg_ml "PageReceiver$Screen" 92 y_Screen_drawStates := Or.inl (pg_tb 564 rfl rfl)
set_option maxRecDepth 100000 in
theorem l_Screen_95 : pg_ml "PageReceiver$Screen" 95 y_States_doAfter := Or.inl (pg_tb 572 rfl rfl)
set_option maxRecDepth 100000 in
theorem l_Screen_110 : pg_ml "PageReceiver$Screen" 110 y_Screen_drawBlock := Or.inl (pg_tb 538 rfl rfl)
set_option maxRecDepth 100000 in
theorem l_Screen_114 : pg_ml "PageReceiver$Screen" 114 y_Screen_drawPlain := Or.inl (pg_tb 542 rfl rfl)
set_option maxRecDepth 100000 in
theorem l_Screen_120 : pg_ml "PageReceiver$Screen" 120 y_States_holdLetter := Or.inl (pg_tb 557 rfl rfl)
set_option maxRecDepth 100000 in
theorem l_Screen_123 : pg_ml "PageReceiver$Screen" 123 y_Screen_letterOfSet := Or.inl (pg_tb 558 rfl rfl)
set_option maxRecDepth 100000 in
theorem l_Screen_149 : pg_ml "PageReceiver$Screen" 149 y_States_sum := Or.inl (pg_tb 568 rfl rfl)
set_option maxRecDepth 100000 in
theorem l_Screen_155 : pg_ml "PageReceiver$Screen" 155 y_Screen_indexInSet := Or.inl (pg_tb 561 rfl rfl)
set_option maxRecDepth 100000 in
theorem l_Screen_158 : pg_ml "PageReceiver$Screen" 158 y_Screen_blockFills := Or.inl (pg_tb 596 rfl rfl)
set_option maxRecDepth 100000 in
theorem l_Screen_162 : pg_ml "PageReceiver$Screen" 162 y_Screen_letterFills := Or.inl (pg_tb 600 rfl rfl)
set_option maxRecDepth 100000 in
theorem l_Shelf_3 : pg_ml "PageReceiver$Shelf" 3 y_JObj_init := Or.inl (pg_tb 51 rfl rfl)
set_option maxRecDepth 100000 in
theorem l_Shelf_21 : pg_ml "PageReceiver$Shelf" 21 y_Page_init := Or.inr ⟨"PageReceiver", List.mem_of_getElem? (i := 0) rfl⟩
set_option maxRecDepth 100000 in
theorem l_Shelf_30 : pg_ml "PageReceiver$Shelf" 30 y_Shelf_placeFor := Or.inl (pg_tb 326 rfl rfl)
set_option maxRecDepth 100000 in
theorem l_Shelf_34 : pg_ml "PageReceiver$Shelf" 34 y_Page_copyFrom := Or.inl (pg_tb 338 rfl rfl)
set_option maxRecDepth 100000 in
theorem l_Shelf_41 : pg_ml "PageReceiver$Shelf" 41 y_Shelf_find := Or.inl (pg_tb 330 rfl rfl)
set_option maxRecDepth 100000 in
theorem l_Shelf_45 : pg_ml "PageReceiver$Shelf" 45 y_Shelf_oldest := Or.inl (pg_tb 334 rfl rfl)
set_option maxRecDepth 100000 in
theorem l_States_3 : pg_ml "PageReceiver$States" 3 y_JObj_init := Or.inl (pg_tb 184 rfl rfl)
set_option maxRecDepth 100000 in
theorem l_States_40 : pg_ml "PageReceiver$States" 40 y_States_holdLetter := Or.inl (pg_tb 518 rfl rfl)
set_option maxRecDepth 100000 in
theorem l_States_50 : pg_ml "PageReceiver$States" 50 y_States_turnDouble := Or.inl (pg_tb 530 rfl rfl)
set_option maxRecDepth 100000 in
theorem l_States_54 : pg_ml "PageReceiver$States" 54 y_States_takeColour := Or.inl (pg_tb 576 rfl rfl)
set_option maxRecDepth 100000 in
theorem l_States_57 : pg_ml "PageReceiver$States" 57 y_States_turnMosaic := Or.inl (pg_tb 580 rfl rfl)
set_option maxRecDepth 100000 in
theorem l_Tuner_3 : pg_ml "PageReceiver$Tuner" 3 y_JObj_init := Or.inl (pg_tb 144 rfl rfl)
set_option maxRecDepth 100000 in
theorem l_Tuner_39 : pg_ml "PageReceiver$Tuner" 39 y_Page_init := Or.inr ⟨"PageReceiver", List.mem_of_getElem? (i := 2) rfl⟩
set_option maxRecDepth 100000 in
theorem l_Tuner_40 : pg_ml "PageReceiver$Tuner" 40 y_JArr_fill := Or.inl (pg_tb 147 rfl rfl)
set_option maxRecDepth 100000 in
theorem l_Tuner_46 : pg_ml "PageReceiver$Tuner" 46 y_Packet_nibble := Or.inl (pg_tb 294 rfl rfl)
set_option maxRecDepth 100000 in
theorem l_Tuner_52 : pg_ml "PageReceiver$Tuner" 52 y_Tuner_takeHeader := Or.inl (pg_tb 310 rfl rfl)
set_option maxRecDepth 100000 in
theorem l_Tuner_60 : pg_ml "PageReceiver$Tuner" 60 y_Tuner_takeRow := Or.inl (pg_tb 374 rfl rfl)
set_option maxRecDepth 100000 in
theorem l_Tuner_64 : pg_ml "PageReceiver$Tuner" 64 y_Tuner_takeLetters := Or.inl (pg_tb 378 rfl rfl)
set_option maxRecDepth 100000 in
theorem l_Tuner_68 : pg_ml "PageReceiver$Tuner" 68 y_Tuner_takeOverlays := Or.inl (pg_tb 382 rfl rfl)
set_option maxRecDepth 100000 in
theorem l_Tuner_72 : pg_ml "PageReceiver$Tuner" 72 y_Tuner_takeLinks := Or.inl (pg_tb 405 rfl rfl)
set_option maxRecDepth 100000 in
theorem l_Tuner_75 : pg_ml "PageReceiver$Tuner" 75 y_Tuner_readHeader := Or.inl (pg_tb 314 rfl rfl)
set_option maxRecDepth 100000 in
theorem l_Tuner_79 : pg_ml "PageReceiver$Tuner" 79 y_Tuner_completeComing := Or.inl (pg_tb 318 rfl rfl)
set_option maxRecDepth 100000 in
theorem l_Tuner_83 : pg_ml "PageReceiver$Tuner" 83 y_Tuner_beginPage := Or.inl (pg_tb 345 rfl rfl)
set_option maxRecDepth 100000 in
theorem l_Tuner_86 : pg_ml "PageReceiver$Tuner" 86 y_Tuner_takeHeaderLetters := Or.inl (pg_tb 356 rfl rfl)
set_option maxRecDepth 100000 in
theorem l_Tuner_96 : pg_ml "PageReceiver$Tuner" 96 y_Shelf_complete := Or.inl (pg_tb 322 rfl rfl)
set_option maxRecDepth 100000 in
theorem l_Tuner_101 : pg_ml "PageReceiver$Tuner" 101 y_Shelf_find := Or.inl (pg_tb 349 rfl rfl)
set_option maxRecDepth 100000 in
theorem l_Tuner_105 : pg_ml "PageReceiver$Tuner" 105 y_Page_begin := Or.inl (pg_tb 350 rfl rfl)
set_option maxRecDepth 100000 in
theorem l_Tuner_108 : pg_ml "PageReceiver$Tuner" 108 y_Page_copyFrom := Or.inl (pg_tb 355 rfl rfl)
set_option maxRecDepth 100000 in
theorem l_Tuner_117 : pg_ml "PageReceiver$Tuner" 117 y_Packet_letter := Or.inl (pg_tb 360 rfl rfl)
set_option maxRecDepth 100000 in
theorem l_Tuner_120 : pg_ml "PageReceiver$Tuner" 120 y_Page_setLetter := Or.inl (pg_tb 367 rfl rfl)
set_option maxRecDepth 100000 in
theorem l_Tuner_124 : pg_ml "PageReceiver$Tuner" 124 y_Packet_triplet := Or.inl (pg_tb 386 rfl rfl)
set_option maxRecDepth 100000 in
theorem l_Tuner_127 : pg_ml "PageReceiver$Tuner" 127 y_Tuner_takeTriplet := Or.inl (pg_tb 398 rfl rfl)
set_option maxRecDepth 100000 in
theorem l_Tuner_131 : pg_ml "PageReceiver$Tuner" 131 y_Page_setOverlay := Or.inl (pg_tb 401 rfl rfl)
set_option maxRecDepth 100000 in
theorem l_Law_9 : pg_ml "PageReceiverLaw" 9 y_Law_cell := Or.inl (pg_tb 605 rfl rfl)
set_option maxRecDepth 100000 in
theorem l_Law_15 : pg_ml "PageReceiverLaw" 15 y_Recv_init := Or.inl (pg_tb 16 rfl rfl)
set_option maxRecDepth 100000 in
theorem l_Law_20 : pg_ml "PageReceiverLaw" 20 y_Mod_init := Or.inl (pg_tb 610 rfl rfl)
set_option maxRecDepth 100000 in
theorem l_Law_23 : pg_ml "PageReceiverLaw" 23 y_Recv_feed := Or.inl (pg_tb 278 rfl rfl)
set_option maxRecDepth 100000 in
theorem l_Law_27 : pg_ml "PageReceiverLaw" 27 y_Mod_feed := Or.inl (pg_tb 727 rfl rfl)
set_option maxRecDepth 100000 in
theorem l_Law_28 : pg_ml "PageReceiverLaw" 28 y_Recv_reset := Or.inl (pg_tb 413 rfl rfl)
set_option maxRecDepth 100000 in
theorem l_Law_32 : pg_ml "PageReceiverLaw" 32 y_Mod_reset := Or.inl (pg_tb 798 rfl rfl)
set_option maxRecDepth 100000 in
theorem l_Law_33 : pg_ml "PageReceiverLaw" 33 y_Recv_key := Or.inl (pg_tb 417 rfl rfl)
set_option maxRecDepth 100000 in
theorem l_Law_37 : pg_ml "PageReceiverLaw" 37 y_Mod_key := Or.inl (pg_tb 802 rfl rfl)
set_option maxRecDepth 100000 in
theorem l_Law_38 : pg_ml "PageReceiverLaw" 38 y_Recv_tick := Or.inl (pg_tb 451 rfl rfl)
set_option maxRecDepth 100000 in
theorem l_Law_42 : pg_ml "PageReceiverLaw" 42 y_Mod_tick := Or.inl (pg_tb 818 rfl rfl)
set_option maxRecDepth 100000 in
theorem l_Law_43 : pg_ml "PageReceiverLaw" 43 y_Recv_shown := Or.inl (pg_tb 455 rfl rfl)
set_option maxRecDepth 100000 in
theorem l_Law_46 : pg_ml "PageReceiverLaw" 46 y_Mod_shown := Or.inl (pg_tb 822 rfl rfl)
set_option maxRecDepth 100000 in
theorem l_Law_47 : pg_ml "PageReceiverLaw" 47 y_Recv_viewer := Or.inl (pg_tb 460 rfl rfl)
set_option maxRecDepth 100000 in
theorem l_Law_51 : pg_ml "PageReceiverLaw" 51 y_Mod_viewer := Or.inl (pg_tb 826 rfl rfl)
set_option maxRecDepth 100000 in
theorem l_Law_52 : pg_ml "PageReceiverLaw" 52 y_Recv_kept := Or.inl (pg_tb 464 rfl rfl)
set_option maxRecDepth 100000 in
theorem l_Law_56 : pg_ml "PageReceiverLaw" 56 y_Mod_kept := Or.inl (pg_tb 830 rfl rfl)
set_option maxRecDepth 100000 in
theorem l_Law_57 : pg_ml "PageReceiverLaw" 57 y_Recv_count := Or.inl (pg_tb 477 rfl rfl)
set_option maxRecDepth 100000 in
theorem l_Law_60 : pg_ml "PageReceiverLaw" 60 y_Mod_count := Or.inl (pg_tb 834 rfl rfl)
set_option maxRecDepth 100000 in
theorem l_Law_61 : pg_ml "PageReceiverLaw" 61 y_Recv_look := Or.inl (pg_tb 481 rfl rfl)
set_option maxRecDepth 100000 in
theorem l_Law_65 : pg_ml "PageReceiverLaw" 65 y_Mod_look := Or.inl (pg_tb 838 rfl rfl)
set_option maxRecDepth 100000 in
theorem l_Law_66 : pg_ml "PageReceiverLaw" 66 y_Recv_point := Or.inl (pg_tb 588 rfl rfl)
set_option maxRecDepth 100000 in
theorem l_Law_70 : pg_ml "PageReceiverLaw" 70 y_Mod_point := Or.inl (pg_tb 895 rfl rfl)
set_option maxRecDepth 100000 in
theorem l_Mod_1 : pg_ml "PageReceiverModel" 1 y_JObj_init := Or.inl (pg_tb 613 rfl rfl)
set_option maxRecDepth 100000 in
theorem l_Mod_73 : pg_ml "PageReceiverModel" 73 y_Mod_parity := Or.inl (pg_tb 743 rfl rfl)
set_option maxRecDepth 100000 in
theorem l_Mod_77 : pg_ml "PageReceiverModel" 77 y_Mod_codeOf := Or.inl (pg_tb 740 rfl rfl)
set_option maxRecDepth 100000 in
theorem l_Mod_80 : pg_ml "PageReceiverModel" 80 y_Mod_keptAt := Or.inl (pg_tb 762 rfl rfl)
set_option maxRecDepth 100000 in
theorem l_Mod_83 : pg_ml "PageReceiverModel" 83 y_Mod_placeFor := Or.inl (pg_tb 758 rfl rfl)
set_option maxRecDepth 100000 in
theorem l_Mod_86 : pg_ml "PageReceiverModel" 86 y_Mod_copy := Or.inl (pg_tb 766 rfl rfl)
set_option maxRecDepth 100000 in
theorem l_Mod_90 : pg_ml "PageReceiverModel" 90 y_Mod_nibble := Or.inl (pg_tb 736 rfl rfl)
set_option maxRecDepth 100000 in
theorem l_Mod_93 : pg_ml "PageReceiverModel" 93 y_Mod_drop := Or.inl (pg_tb 746 rfl rfl)
set_option maxRecDepth 100000 in
theorem l_Mod_96 : pg_ml "PageReceiverModel" 96 y_Mod_takeHeader := Or.inl (pg_tb 750 rfl rfl)
set_option maxRecDepth 100000 in
theorem l_Mod_100 : pg_ml "PageReceiverModel" 100 y_Mod_letter := Or.inl (pg_tb 778 rfl rfl)
set_option maxRecDepth 100000 in
theorem l_Mod_103 : pg_ml "PageReceiverModel" 103 y_Mod_takeOverlays := Or.inl (pg_tb 782 rfl rfl)
set_option maxRecDepth 100000 in
theorem l_Mod_106 : pg_ml "PageReceiverModel" 106 y_Mod_takeLinks := Or.inl (pg_tb 794 rfl rfl)
set_option maxRecDepth 100000 in
theorem l_Mod_109 : pg_ml "PageReceiverModel" 109 y_Mod_complete := Or.inl (pg_tb 754 rfl rfl)
set_option maxRecDepth 100000 in
theorem l_Mod_112 : pg_ml "PageReceiverModel" 112 y_Mod_comes := Or.inl (pg_tb 770 rfl rfl)
set_option maxRecDepth 100000 in
theorem l_Mod_116 : pg_ml "PageReceiverModel" 116 y_Mod_blank := Or.inl (pg_tb 774 rfl rfl)
set_option maxRecDepth 100000 in
theorem l_Mod_120 : pg_ml "PageReceiverModel" 120 y_Mod_mended := Or.inl (pg_tb 787 rfl rfl)
set_option maxRecDepth 100000 in
theorem l_Mod_123 : pg_ml "PageReceiverModel" 123 y_Mod_told := Or.inl (pg_tb 791 rfl rfl)
set_option maxRecDepth 100000 in
theorem l_Mod_132 : pg_ml "PageReceiverModel" 132 y_Mod_takePacket := Or.inl (pg_tb 732 rfl rfl)
set_option maxRecDepth 100000 in
theorem l_Mod_147 : pg_ml "PageReceiverModel" 147 y_Mod_want := Or.inl (pg_tb 810 rfl rfl)
set_option maxRecDepth 100000 in
theorem l_Mod_150 : pg_ml "PageReceiverModel" 150 y_Mod_digit := Or.inl (pg_tb 806 rfl rfl)
set_option maxRecDepth 100000 in
theorem l_Mod_154 : pg_ml "PageReceiverModel" 154 y_Mod_shownAt := Or.inl (pg_tb 814 rfl rfl)
set_option maxRecDepth 100000 in
theorem l_Mod_158 : pg_ml "PageReceiverModel" 158 y_Mod_sign := Or.inl (pg_tb 857 rfl rfl)
set_option maxRecDepth 100000 in
theorem l_Mod_188 : pg_ml "PageReceiverModel" 188 y_Mod_forget := Or.inl (pg_tb 864 rfl rfl)
set_option maxRecDepth 100000 in
theorem l_Mod_197 : pg_ml "PageReceiverModel" 197 y_Mod_setTwice := Or.inl (pg_tb 883 rfl rfl)
set_option maxRecDepth 100000 in
theorem l_Mod_201 : pg_ml "PageReceiverModel" 201 y_Mod_setMosaic := Or.inl (pg_tb 891 rfl rfl)
set_option maxRecDepth 100000 in
theorem l_Mod_207 : pg_ml "PageReceiverModel" 207 y_Mod_note := Or.inl (pg_tb 872 rfl rfl)
set_option maxRecDepth 100000 in
theorem l_Mod_211 : pg_ml "PageReceiverModel" 211 y_Mod_changed := Or.inl (pg_tb 876 rfl rfl)
set_option maxRecDepth 100000 in
theorem l_Mod_214 : pg_ml "PageReceiverModel" 214 y_Mod_fetch := Or.inl (pg_tb 853 rfl rfl)
set_option maxRecDepth 100000 in
theorem l_Mod_217 : pg_ml "PageReceiverModel" 217 y_Mod_begin := Or.inl (pg_tb 860 rfl rfl)
set_option maxRecDepth 100000 in
theorem l_Mod_220 : pg_ml "PageReceiverModel" 220 y_Mod_noteLetter := Or.inl (pg_tb 868 rfl rfl)
set_option maxRecDepth 100000 in
theorem l_Mod_224 : pg_ml "PageReceiverModel" 224 y_Mod_before := Or.inl (pg_tb 879 rfl rfl)
set_option maxRecDepth 100000 in
theorem l_Mod_227 : pg_ml "PageReceiverModel" 227 y_Mod_after := Or.inl (pg_tb 887 rfl rfl)
set_option maxRecDepth 100000 in
theorem l_Mod_230 : pg_ml "PageReceiverModel" 230 y_Mod_go := Or.inl (pg_tb 849 rfl rfl)
set_option maxRecDepth 100000 in
theorem l_Mod_233 : pg_ml "PageReceiverModel" 233 y_Mod_isCell := Or.inl (pg_tb 842 rfl rfl)
set_option maxRecDepth 100000 in
theorem l_Mod_237 : pg_ml "PageReceiverModel" 237 y_Mod_goTo := Or.inl (pg_tb 845 rfl rfl)
set_option maxRecDepth 100000 in
theorem m_Recv_init : pg_mc y_Recv_init b_Recv_init 2 1 := ⟨pg_tb 18 rfl rfl, pg_tb 1 rfl rfl, pg_tb 17 rfl rfl, rfl, ⟨by decide, by decide, by decide +kernel⟩⟩
set_option maxRecDepth 100000 in
theorem m_Packet_init : pg_mc y_Packet_init b_Packet_init 2 1 := ⟨pg_tb 26 rfl rfl, pg_tb 2 rfl rfl, pg_tb 25 rfl rfl, rfl, ⟨by decide, by decide, by decide +kernel⟩⟩
set_option maxRecDepth 100000 in
theorem m_JMath_min : pg_ms y_JMath_min b_JMath_min 2 (some .int) 2 := ⟨pg_tb 44 rfl rfl, pg_tb 4 rfl rfl, pg_tb 43 rfl rfl, ⟨by decide, by decide, by decide +kernel⟩⟩
set_option maxRecDepth 100000 in
theorem m_JMath_max : pg_ms y_JMath_max b_JMath_max 2 (some .int) 2 := ⟨pg_tb 47 rfl rfl, pg_tb 4 rfl rfl, pg_tb 46 rfl rfl, ⟨by decide, by decide, by decide +kernel⟩⟩
set_option maxRecDepth 100000 in
theorem m_Shelf_init : pg_mc y_Shelf_init b_Shelf_init 4 2 := ⟨pg_tb 50 rfl rfl, pg_tb 3 rfl rfl, pg_tb 49 rfl rfl, rfl, ⟨by decide, by decide, by decide +kernel⟩⟩
set_option maxRecDepth 100000 in
theorem m_Page_init : pg_mc y_Page_init b_Page_init 1 0 := ⟨pg_tb 57 rfl rfl, pg_tb 5 rfl rfl, pg_tb 56 rfl rfl, rfl, ⟨by decide, by decide, by decide +kernel⟩⟩
set_option maxRecDepth 100000 in
theorem m_Remote_init : pg_mc y_Remote_init b_Remote_init 2 1 := ⟨pg_tb 106 rfl rfl, pg_tb 6 rfl rfl, pg_tb 105 rfl rfl, rfl, ⟨by decide, by decide, by decide +kernel⟩⟩
set_option maxRecDepth 100000 in
theorem m_Tuner_init : pg_mc y_Tuner_init b_Tuner_init 6 4 := ⟨pg_tb 143 rfl rfl, pg_tb 7 rfl rfl, pg_tb 142 rfl rfl, rfl, ⟨by decide, by decide, by decide +kernel⟩⟩
set_option maxRecDepth 100000 in
theorem m_JArr_fill : pg_ms y_JArr_fill b_JArr_fill 4 none 2 := ⟨pg_tb 149 rfl rfl, pg_tb 8 rfl rfl, pg_tb 148 rfl rfl, ⟨by decide, by decide, by decide +kernel⟩⟩
set_option maxRecDepth 100000 in
theorem m_Screen_init : pg_mc y_Screen_init b_Screen_init 3 2 := ⟨pg_tb 177 rfl rfl, pg_tb 9 rfl rfl, pg_tb 176 rfl rfl, rfl, ⟨by decide, by decide, by decide +kernel⟩⟩
set_option maxRecDepth 100000 in
theorem m_States_init : pg_mc y_States_init b_States_init 1 0 := ⟨pg_tb 183 rfl rfl, pg_tb 10 rfl rfl, pg_tb 182 rfl rfl, rfl, ⟨by decide, by decide, by decide +kernel⟩⟩
set_option maxRecDepth 100000 in
theorem m_Recv_feed : pg_mi y_Recv_feed b_Recv_feed 5 (some .int) 2 := ⟨pg_tb 281 rfl rfl, pg_tb 1 rfl rfl, pg_tb 279 rfl rfl, pg_tb 280 rfl rfl, ⟨by decide, by decide, by decide +kernel⟩⟩
set_option maxRecDepth 100000 in
theorem m_Packet_put : pg_mi y_Packet_put b_Packet_put 2 none 1 := ⟨pg_tb 285 rfl rfl, pg_tb 2 rfl rfl, pg_tb 283 rfl rfl, pg_tb 284 rfl rfl, ⟨by decide, by decide, by decide +kernel⟩⟩
set_option maxRecDepth 100000 in
theorem m_Packet_isWhole : pg_mi y_Packet_isWhole b_Packet_isWhole 1 (some .boolean) 0 := ⟨pg_tb 289 rfl rfl, pg_tb 2 rfl rfl, pg_tb 287 rfl rfl, pg_tb 288 rfl rfl, ⟨by decide, by decide, by decide +kernel⟩⟩
set_option maxRecDepth 100000 in
theorem m_Tuner_takePacket : pg_mi y_Tuner_takePacket b_Tuner_takePacket 5 none 0 := ⟨pg_tb 293 rfl rfl, pg_tb 7 rfl rfl, pg_tb 291 rfl rfl, pg_tb 292 rfl rfl, ⟨by decide, by decide, by decide +kernel⟩⟩
set_option maxRecDepth 100000 in
theorem m_Packet_nibble : pg_mi y_Packet_nibble b_Packet_nibble 4 (some .int) 1 := ⟨pg_tb 297 rfl rfl, pg_tb 2 rfl rfl, pg_tb 295 rfl rfl, pg_tb 296 rfl rfl, ⟨by decide, by decide, by decide +kernel⟩⟩
set_option maxRecDepth 100000 in
theorem m_Packet_byteAt : pg_mi y_Packet_byteAt b_Packet_byteAt 2 (some .int) 1 := ⟨pg_tb 303 rfl rfl, pg_tb 2 rfl rfl, pg_tb 302 rfl rfl, pg_tp 0 rfl, ⟨by decide, by decide, by decide +kernel⟩⟩
set_option maxRecDepth 100000 in
theorem m_JInt_bitCount : pg_ms y_JInt_bitCount b_JInt_bitCount 1 (some .int) 1 := ⟨pg_tb 306 rfl rfl, pg_tb 12 rfl rfl, pg_tb 305 rfl rfl, ⟨by decide, by decide, by decide +kernel⟩⟩
set_option maxRecDepth 100000 in
theorem m_Tuner_takeHeader : pg_mi y_Tuner_takeHeader b_Tuner_takeHeader 3 none 1 := ⟨pg_tb 313 rfl rfl, pg_tb 7 rfl rfl, pg_tb 312 rfl rfl, pg_tp 1 rfl, ⟨by decide, by decide, by decide +kernel⟩⟩
set_option maxRecDepth 100000 in
theorem m_Tuner_readHeader : pg_mi y_Tuner_readHeader b_Tuner_readHeader 2 (some .boolean) 0 := ⟨pg_tb 317 rfl rfl, pg_tb 7 rfl rfl, pg_tb 316 rfl rfl, pg_tp 2 rfl, ⟨by decide, by decide, by decide +kernel⟩⟩
set_option maxRecDepth 100000 in
theorem m_Tuner_completeComing : pg_mi y_Tuner_completeComing b_Tuner_completeComing 4 none 2 := ⟨pg_tb 321 rfl rfl, pg_tb 7 rfl rfl, pg_tb 320 rfl rfl, pg_tp 3 rfl, ⟨by decide, by decide, by decide +kernel⟩⟩
set_option maxRecDepth 100000 in
theorem m_Shelf_complete : pg_mi y_Shelf_complete b_Shelf_complete 4 none 2 := ⟨pg_tb 325 rfl rfl, pg_tb 3 rfl rfl, pg_tb 323 rfl rfl, pg_tb 324 rfl rfl, ⟨by decide, by decide, by decide +kernel⟩⟩
set_option maxRecDepth 100000 in
theorem m_Shelf_placeFor : pg_mi y_Shelf_placeFor b_Shelf_placeFor 5 (some (.object "PageReceiver$Page")) 2 := ⟨pg_tb 329 rfl rfl, pg_tb 3 rfl rfl, pg_tb 328 rfl rfl, pg_tp 4 rfl, ⟨by decide, by decide, by decide +kernel⟩⟩
set_option maxRecDepth 100000 in
theorem m_Shelf_find : pg_mi y_Shelf_find b_Shelf_find 3 (some (.object "PageReceiver$Page")) 1 := ⟨pg_tb 333 rfl rfl, pg_tb 3 rfl rfl, pg_tb 331 rfl rfl, pg_tb 332 rfl rfl, ⟨by decide, by decide, by decide +kernel⟩⟩
set_option maxRecDepth 100000 in
theorem m_Shelf_oldest : pg_mi y_Shelf_oldest b_Shelf_oldest 6 (some (.object "PageReceiver$Page")) 1 := ⟨pg_tb 337 rfl rfl, pg_tb 3 rfl rfl, pg_tb 336 rfl rfl, pg_tp 5 rfl, ⟨by decide, by decide, by decide +kernel⟩⟩
set_option maxRecDepth 100000 in
theorem m_Page_copyFrom : pg_mi y_Page_copyFrom b_Page_copyFrom 2 none 1 := ⟨pg_tb 341 rfl rfl, pg_tb 5 rfl rfl, pg_tb 339 rfl rfl, pg_tb 340 rfl rfl, ⟨by decide, by decide, by decide +kernel⟩⟩
set_option maxRecDepth 100000 in
theorem m_Tuner_beginPage : pg_mi y_Tuner_beginPage b_Tuner_beginPage 5 none 1 := ⟨pg_tb 348 rfl rfl, pg_tb 7 rfl rfl, pg_tb 347 rfl rfl, pg_tp 6 rfl, ⟨by decide, by decide, by decide +kernel⟩⟩
set_option maxRecDepth 100000 in
theorem m_Page_begin : pg_mi y_Page_begin b_Page_begin 2 none 1 := ⟨pg_tb 353 rfl rfl, pg_tb 5 rfl rfl, pg_tb 351 rfl rfl, pg_tb 352 rfl rfl, ⟨by decide, by decide, by decide +kernel⟩⟩
set_option maxRecDepth 100000 in
theorem m_Tuner_takeHeaderLetters : pg_mi y_Tuner_takeHeaderLetters b_Tuner_takeHeaderLetters 5 none 2 := ⟨pg_tb 359 rfl rfl, pg_tb 7 rfl rfl, pg_tb 358 rfl rfl, pg_tp 7 rfl, ⟨by decide, by decide, by decide +kernel⟩⟩
set_option maxRecDepth 100000 in
theorem m_Packet_letter : pg_mi y_Packet_letter b_Packet_letter 3 (some .int) 1 := ⟨pg_tb 363 rfl rfl, pg_tb 2 rfl rfl, pg_tb 361 rfl rfl, pg_tb 362 rfl rfl, ⟨by decide, by decide, by decide +kernel⟩⟩
set_option maxRecDepth 100000 in
theorem m_Packet_isOdd : pg_ms y_Packet_isOdd b_Packet_isOdd 1 (some .boolean) 1 := ⟨pg_tb 366 rfl rfl, pg_tb 2 rfl rfl, pg_tb 365 rfl rfl, ⟨by decide, by decide, by decide +kernel⟩⟩
set_option maxRecDepth 100000 in
theorem m_Page_setLetter : pg_mi y_Page_setLetter b_Page_setLetter 4 none 3 := ⟨pg_tb 370 rfl rfl, pg_tb 5 rfl rfl, pg_tb 368 rfl rfl, pg_tb 369 rfl rfl, ⟨by decide, by decide, by decide +kernel⟩⟩
set_option maxRecDepth 100000 in
theorem m_Recv_isCell : pg_ms y_Recv_isCell b_Recv_isCell 2 (some .boolean) 2 := ⟨pg_tb 373 rfl rfl, pg_tb 1 rfl rfl, pg_tb 372 rfl rfl, ⟨by decide, by decide, by decide +kernel⟩⟩
set_option maxRecDepth 100000 in
theorem m_Tuner_takeRow : pg_mi y_Tuner_takeRow b_Tuner_takeRow 4 none 3 := ⟨pg_tb 377 rfl rfl, pg_tb 7 rfl rfl, pg_tb 376 rfl rfl, pg_tp 8 rfl, ⟨by decide, by decide, by decide +kernel⟩⟩
set_option maxRecDepth 100000 in
theorem m_Tuner_takeLetters : pg_mi y_Tuner_takeLetters b_Tuner_takeLetters 5 none 2 := ⟨pg_tb 381 rfl rfl, pg_tb 7 rfl rfl, pg_tb 380 rfl rfl, pg_tp 9 rfl, ⟨by decide, by decide, by decide +kernel⟩⟩
set_option maxRecDepth 100000 in
theorem m_Tuner_takeOverlays : pg_mi y_Tuner_takeOverlays b_Tuner_takeOverlays 5 none 1 := ⟨pg_tb 385 rfl rfl, pg_tb 7 rfl rfl, pg_tb 384 rfl rfl, pg_tp 10 rfl, ⟨by decide, by decide, by decide +kernel⟩⟩
set_option maxRecDepth 100000 in
theorem m_Packet_triplet : pg_mi y_Packet_triplet b_Packet_triplet 5 (some .int) 1 := ⟨pg_tb 389 rfl rfl, pg_tb 2 rfl rfl, pg_tb 387 rfl rfl, pg_tb 388 rfl rfl, ⟨by decide, by decide, by decide +kernel⟩⟩
set_option maxRecDepth 100000 in
theorem m_Packet_failingSum : pg_ms y_Packet_failingSum b_Packet_failingSum 3 (some .int) 1 := ⟨pg_tb 392 rfl rfl, pg_tb 2 rfl rfl, pg_tb 391 rfl rfl, ⟨by decide, by decide, by decide +kernel⟩⟩
set_option maxRecDepth 100000 in
theorem m_Packet_bitsOf : pg_ms y_Packet_bitsOf b_Packet_bitsOf 1 (some .int) 1 := ⟨pg_tb 397 rfl rfl, pg_tb 2 rfl rfl, pg_tb 396 rfl rfl, ⟨by decide, by decide, by decide +kernel⟩⟩
set_option maxRecDepth 100000 in
theorem m_Tuner_takeTriplet : pg_ms y_Tuner_takeTriplet b_Tuner_takeTriplet 6 (some .int) 3 := ⟨pg_tb 400 rfl rfl, pg_tb 7 rfl rfl, pg_tb 399 rfl rfl, ⟨by decide, by decide, by decide +kernel⟩⟩
set_option maxRecDepth 100000 in
theorem m_Page_setOverlay : pg_mi y_Page_setOverlay b_Page_setOverlay 4 none 3 := ⟨pg_tb 404 rfl rfl, pg_tb 5 rfl rfl, pg_tb 402 rfl rfl, pg_tb 403 rfl rfl, ⟨by decide, by decide, by decide +kernel⟩⟩
set_option maxRecDepth 100000 in
theorem m_Tuner_takeLinks : pg_mi y_Tuner_takeLinks b_Tuner_takeLinks 7 none 2 := ⟨pg_tb 408 rfl rfl, pg_tb 7 rfl rfl, pg_tb 407 rfl rfl, pg_tp 11 rfl, ⟨by decide, by decide, by decide +kernel⟩⟩
set_option maxRecDepth 100000 in
theorem m_Packet_empty : pg_mi y_Packet_empty b_Packet_empty 2 (some .int) 0 := ⟨pg_tb 412 rfl rfl, pg_tb 2 rfl rfl, pg_tb 410 rfl rfl, pg_tb 411 rfl rfl, ⟨by decide, by decide, by decide +kernel⟩⟩
set_option maxRecDepth 100000 in
theorem m_Recv_reset : pg_mi y_Recv_reset b_Recv_reset 1 (some .int) 0 := ⟨pg_tb 416 rfl rfl, pg_tb 1 rfl rfl, pg_tb 414 rfl rfl, pg_tb 415 rfl rfl, ⟨by decide, by decide, by decide +kernel⟩⟩
set_option maxRecDepth 100000 in
theorem m_Recv_key : pg_mi y_Recv_key b_Recv_key 2 (some .boolean) 1 := ⟨pg_tb 420 rfl rfl, pg_tb 1 rfl rfl, pg_tb 418 rfl rfl, pg_tb 419 rfl rfl, ⟨by decide, by decide, by decide +kernel⟩⟩
set_option maxRecDepth 100000 in
theorem m_Remote_pressDigit : pg_mi y_Remote_pressDigit b_Remote_pressDigit 2 (some .boolean) 1 := ⟨pg_tb 424 rfl rfl, pg_tb 6 rfl rfl, pg_tb 422 rfl rfl, pg_tb 423 rfl rfl, ⟨by decide, by decide, by decide +kernel⟩⟩
set_option maxRecDepth 100000 in
theorem m_Remote_want : pg_mi y_Remote_want b_Remote_want 2 none 1 := ⟨pg_tb 428 rfl rfl, pg_tb 6 rfl rfl, pg_tb 427 rfl rfl, pg_tp 12 rfl, ⟨by decide, by decide, by decide +kernel⟩⟩
set_option maxRecDepth 100000 in
theorem m_Remote_pressCommand : pg_mi y_Remote_pressCommand b_Remote_pressCommand 2 (some .boolean) 1 := ⟨pg_tb 432 rfl rfl, pg_tb 6 rfl rfl, pg_tb 430 rfl rfl, pg_tb 431 rfl rfl, ⟨by decide, by decide, by decide +kernel⟩⟩
set_option maxRecDepth 100000 in
theorem m_Remote_turnHeld : pg_mi y_Remote_turnHeld b_Remote_turnHeld 2 (some .boolean) 0 := ⟨pg_tb 436 rfl rfl, pg_tb 6 rfl rfl, pg_tb 435 rfl rfl, pg_tp 13 rfl, ⟨by decide, by decide, by decide +kernel⟩⟩
set_option maxRecDepth 100000 in
theorem m_Remote_pageShown : pg_mi y_Remote_pageShown b_Remote_pageShown 1 (some (.object "PageReceiver$Page")) 0 := ⟨pg_tb 440 rfl rfl, pg_tb 6 rfl rfl, pg_tb 438 rfl rfl, pg_tb 439 rfl rfl, ⟨by decide, by decide, by decide +kernel⟩⟩
set_option maxRecDepth 100000 in
theorem m_Remote_followLink : pg_mi y_Remote_followLink b_Remote_followLink 3 (some .boolean) 1 := ⟨pg_tb 446 rfl rfl, pg_tb 6 rfl rfl, pg_tb 445 rfl rfl, pg_tp 14 rfl, ⟨by decide, by decide, by decide +kernel⟩⟩
set_option maxRecDepth 100000 in
theorem m_Page_link : pg_mi y_Page_link b_Page_link 2 (some .int) 1 := ⟨pg_tb 450 rfl rfl, pg_tb 5 rfl rfl, pg_tb 448 rfl rfl, pg_tb 449 rfl rfl, ⟨by decide, by decide, by decide +kernel⟩⟩
set_option maxRecDepth 100000 in
theorem m_Recv_tick : pg_mi y_Recv_tick b_Recv_tick 1 (some .boolean) 0 := ⟨pg_tb 454 rfl rfl, pg_tb 1 rfl rfl, pg_tb 452 rfl rfl, pg_tb 453 rfl rfl, ⟨by decide, by decide, by decide +kernel⟩⟩
set_option maxRecDepth 100000 in
theorem m_Recv_shown : pg_mi y_Recv_shown b_Recv_shown 2 (some .int) 0 := ⟨pg_tb 458 rfl rfl, pg_tb 1 rfl rfl, pg_tb 456 rfl rfl, pg_tb 457 rfl rfl, ⟨by decide, by decide, by decide +kernel⟩⟩
set_option maxRecDepth 100000 in
theorem m_Recv_viewer : pg_mi y_Recv_viewer b_Recv_viewer 2 (some .int) 1 := ⟨pg_tb 463 rfl rfl, pg_tb 1 rfl rfl, pg_tb 461 rfl rfl, pg_tb 462 rfl rfl, ⟨by decide, by decide, by decide +kernel⟩⟩
set_option maxRecDepth 100000 in
theorem m_Recv_kept : pg_mi y_Recv_kept b_Recv_kept 4 (some .int) 2 := ⟨pg_tb 467 rfl rfl, pg_tb 1 rfl rfl, pg_tb 465 rfl rfl, pg_tb 466 rfl rfl, ⟨by decide, by decide, by decide +kernel⟩⟩
set_option maxRecDepth 100000 in
theorem m_Shelf_pageIn : pg_mi y_Shelf_pageIn b_Shelf_pageIn 2 (some (.object "PageReceiver$Page")) 1 := ⟨pg_tb 471 rfl rfl, pg_tb 3 rfl rfl, pg_tb 469 rfl rfl, pg_tb 470 rfl rfl, ⟨by decide, by decide, by decide +kernel⟩⟩
set_option maxRecDepth 100000 in
theorem m_Page_tell : pg_mi y_Page_tell b_Page_tell 2 (some .int) 1 := ⟨pg_tb 475 rfl rfl, pg_tb 5 rfl rfl, pg_tb 473 rfl rfl, pg_tb 474 rfl rfl, ⟨by decide, by decide, by decide +kernel⟩⟩
set_option maxRecDepth 100000 in
theorem m_Recv_count : pg_mi y_Recv_count b_Recv_count 2 (some .int) 1 := ⟨pg_tb 480 rfl rfl, pg_tb 1 rfl rfl, pg_tb 478 rfl rfl, pg_tb 479 rfl rfl, ⟨by decide, by decide, by decide +kernel⟩⟩
set_option maxRecDepth 100000 in
theorem m_Recv_look : pg_mi y_Recv_look b_Recv_look 4 (some .int) 3 := ⟨pg_tb 484 rfl rfl, pg_tb 1 rfl rfl, pg_tb 482 rfl rfl, pg_tb 483 rfl rfl, ⟨by decide, by decide, by decide +kernel⟩⟩
set_option maxRecDepth 100000 in
theorem m_Screen_see : pg_mi y_Screen_see b_Screen_see 7 none 2 := ⟨pg_tb 489 rfl rfl, pg_tb 9 rfl rfl, pg_tb 487 rfl rfl, pg_tb 488 rfl rfl, ⟨by decide, by decide, by decide +kernel⟩⟩
set_option maxRecDepth 100000 in
theorem m_Screen_isOwn : pg_mi y_Screen_isOwn b_Screen_isOwn 5 (some .boolean) 2 := ⟨pg_tb 494 rfl rfl, pg_tb 9 rfl rfl, pg_tb 493 rfl rfl, pg_tp 15 rfl, ⟨by decide, by decide, by decide +kernel⟩⟩
set_option maxRecDepth 100000 in
theorem m_Screen_hasDouble : pg_mi y_Screen_hasDouble b_Screen_hasDouble 6 (some .boolean) 2 := ⟨pg_tb 498 rfl rfl, pg_tb 9 rfl rfl, pg_tb 497 rfl rfl, pg_tp 16 rfl, ⟨by decide, by decide, by decide +kernel⟩⟩
set_option maxRecDepth 100000 in
theorem m_Screen_letterAt : pg_mi y_Screen_letterAt b_Screen_letterAt 4 (some .int) 3 := ⟨pg_tb 502 rfl rfl, pg_tb 9 rfl rfl, pg_tb 501 rfl rfl, pg_tp 17 rfl, ⟨by decide, by decide, by decide +kernel⟩⟩
set_option maxRecDepth 100000 in
theorem m_Screen_headLetter : pg_mi y_Screen_headLetter b_Screen_headLetter 3 (some .int) 1 := ⟨pg_tb 506 rfl rfl, pg_tb 9 rfl rfl, pg_tb 505 rfl rfl, pg_tp 18 rfl, ⟨by decide, by decide, by decide +kernel⟩⟩
set_option maxRecDepth 100000 in
theorem m_Screen_digitLetter : pg_ms y_Screen_digitLetter b_Screen_digitLetter 1 (some .int) 1 := ⟨pg_tb 509 rfl rfl, pg_tb 9 rfl rfl, pg_tb 508 rfl rfl, ⟨by decide, by decide, by decide +kernel⟩⟩
set_option maxRecDepth 100000 in
theorem m_Page_letterAt : pg_mi y_Page_letterAt b_Page_letterAt 3 (some .int) 2 := ⟨pg_tb 513 rfl rfl, pg_tb 5 rfl rfl, pg_tb 511 rfl rfl, pg_tb 512 rfl rfl, ⟨by decide, by decide, by decide +kernel⟩⟩
set_option maxRecDepth 100000 in
theorem m_States_begin : pg_mi y_States_begin b_States_begin 1 none 0 := ⟨pg_tb 517 rfl rfl, pg_tb 10 rfl rfl, pg_tb 515 rfl rfl, pg_tb 516 rfl rfl, ⟨by decide, by decide, by decide +kernel⟩⟩
set_option maxRecDepth 100000 in
theorem m_States_holdLetter : pg_mi y_States_holdLetter b_States_holdLetter 3 none 2 := ⟨pg_tb 521 rfl rfl, pg_tb 10 rfl rfl, pg_tb 519 rfl rfl, pg_tb 520 rfl rfl, ⟨by decide, by decide, by decide +kernel⟩⟩
set_option maxRecDepth 100000 in
theorem m_Screen_drawCell : pg_mi y_Screen_drawCell b_Screen_drawCell 5 none 3 := ⟨pg_tb 525 rfl rfl, pg_tb 9 rfl rfl, pg_tb 524 rfl rfl, pg_tp 19 rfl, ⟨by decide, by decide, by decide +kernel⟩⟩
set_option maxRecDepth 100000 in
theorem m_States_doAtOnce : pg_mi y_States_doAtOnce b_States_doAtOnce 2 none 1 := ⟨pg_tb 529 rfl rfl, pg_tb 10 rfl rfl, pg_tb 527 rfl rfl, pg_tb 528 rfl rfl, ⟨by decide, by decide, by decide +kernel⟩⟩
set_option maxRecDepth 100000 in
theorem m_States_turnDouble : pg_mi y_States_turnDouble b_States_turnDouble 2 none 1 := ⟨pg_tb 533 rfl rfl, pg_tb 10 rfl rfl, pg_tb 532 rfl rfl, pg_tp 20 rfl, ⟨by decide, by decide, by decide +kernel⟩⟩
set_option maxRecDepth 100000 in
theorem m_Screen_drawMark : pg_mi y_Screen_drawMark b_Screen_drawMark 1 none 0 := ⟨pg_tb 537 rfl rfl, pg_tb 9 rfl rfl, pg_tb 536 rfl rfl, pg_tp 21 rfl, ⟨by decide, by decide, by decide +kernel⟩⟩
set_option maxRecDepth 100000 in
theorem m_Screen_drawBlock : pg_mi y_Screen_drawBlock b_Screen_drawBlock 3 none 2 := ⟨pg_tb 541 rfl rfl, pg_tb 9 rfl rfl, pg_tb 540 rfl rfl, pg_tp 22 rfl, ⟨by decide, by decide, by decide +kernel⟩⟩
set_option maxRecDepth 100000 in
theorem m_Screen_drawPlain : pg_mi y_Screen_drawPlain b_Screen_drawPlain 2 none 1 := ⟨pg_tb 545 rfl rfl, pg_tb 9 rfl rfl, pg_tb 544 rfl rfl, pg_tp 23 rfl, ⟨by decide, by decide, by decide +kernel⟩⟩
set_option maxRecDepth 100000 in
theorem m_Screen_overlayAt : pg_ms y_Screen_overlayAt b_Screen_overlayAt 4 (some .int) 3 := ⟨pg_tb 548 rfl rfl, pg_tb 9 rfl rfl, pg_tb 547 rfl rfl, ⟨by decide, by decide, by decide +kernel⟩⟩
set_option maxRecDepth 100000 in
theorem m_Page_overlayAt : pg_mi y_Page_overlayAt b_Page_overlayAt 3 (some .int) 2 := ⟨pg_tb 552 rfl rfl, pg_tb 5 rfl rfl, pg_tb 550 rfl rfl, pg_tb 551 rfl rfl, ⟨by decide, by decide, by decide +kernel⟩⟩
set_option maxRecDepth 100000 in
theorem m_Screen_drawLetter : pg_mi y_Screen_drawLetter b_Screen_drawLetter 4 none 3 := ⟨pg_tb 556 rfl rfl, pg_tb 9 rfl rfl, pg_tb 555 rfl rfl, pg_tp 24 rfl, ⟨by decide, by decide, by decide +kernel⟩⟩
set_option maxRecDepth 100000 in
theorem m_Screen_letterOfSet : pg_ms y_Screen_letterOfSet b_Screen_letterOfSet 3 (some .int) 2 := ⟨pg_tb 560 rfl rfl, pg_tb 9 rfl rfl, pg_tb 559 rfl rfl, ⟨by decide, by decide, by decide +kernel⟩⟩
set_option maxRecDepth 100000 in
theorem m_Screen_indexInSet : pg_ms y_Screen_indexInSet b_Screen_indexInSet 1 (some .int) 1 := ⟨pg_tb 563 rfl rfl, pg_tb 9 rfl rfl, pg_tb 562 rfl rfl, ⟨by decide, by decide, by decide +kernel⟩⟩
set_option maxRecDepth 100000 in
theorem m_Screen_drawStates : pg_mi y_Screen_drawStates b_Screen_drawStates 3 none 1 := ⟨pg_tb 567 rfl rfl, pg_tb 9 rfl rfl, pg_tb 566 rfl rfl, pg_tp 25 rfl, ⟨by decide, by decide, by decide +kernel⟩⟩
set_option maxRecDepth 100000 in
theorem m_States_sum : pg_mi y_States_sum b_States_sum 1 (some .int) 0 := ⟨pg_tb 571 rfl rfl, pg_tb 10 rfl rfl, pg_tb 569 rfl rfl, pg_tb 570 rfl rfl, ⟨by decide, by decide, by decide +kernel⟩⟩
set_option maxRecDepth 100000 in
theorem m_States_doAfter : pg_mi y_States_doAfter b_States_doAfter 2 none 1 := ⟨pg_tb 575 rfl rfl, pg_tb 10 rfl rfl, pg_tb 573 rfl rfl, pg_tb 574 rfl rfl, ⟨by decide, by decide, by decide +kernel⟩⟩
set_option maxRecDepth 100000 in
theorem m_States_takeColour : pg_mi y_States_takeColour b_States_takeColour 3 none 2 := ⟨pg_tb 579 rfl rfl, pg_tb 10 rfl rfl, pg_tb 578 rfl rfl, pg_tp 26 rfl, ⟨by decide, by decide, by decide +kernel⟩⟩
set_option maxRecDepth 100000 in
theorem m_States_turnMosaic : pg_mi y_States_turnMosaic b_States_turnMosaic 2 none 1 := ⟨pg_tb 583 rfl rfl, pg_tb 10 rfl rfl, pg_tb 582 rfl rfl, pg_tp 27 rfl, ⟨by decide, by decide, by decide +kernel⟩⟩
set_option maxRecDepth 100000 in
theorem m_Screen_turnToLowerHalf : pg_mi y_Screen_turnToLowerHalf b_Screen_turnToLowerHalf 1 none 0 := ⟨pg_tb 587 rfl rfl, pg_tb 9 rfl rfl, pg_tb 586 rfl rfl, pg_tp 28 rfl, ⟨by decide, by decide, by decide +kernel⟩⟩
set_option maxRecDepth 100000 in
theorem m_Recv_point : pg_mi y_Recv_point b_Recv_point 5 (some .int) 4 := ⟨pg_tb 591 rfl rfl, pg_tb 1 rfl rfl, pg_tb 589 rfl rfl, pg_tb 590 rfl rfl, ⟨by decide, by decide, by decide +kernel⟩⟩
set_option maxRecDepth 100000 in
theorem m_Screen_colourAt : pg_mi y_Screen_colourAt b_Screen_colourAt 5 (some .int) 2 := ⟨pg_tb 595 rfl rfl, pg_tb 9 rfl rfl, pg_tb 593 rfl rfl, pg_tb 594 rfl rfl, ⟨by decide, by decide, by decide +kernel⟩⟩
set_option maxRecDepth 100000 in
theorem m_Screen_blockFills : pg_mi y_Screen_blockFills b_Screen_blockFills 4 (some .boolean) 2 := ⟨pg_tb 599 rfl rfl, pg_tb 9 rfl rfl, pg_tb 598 rfl rfl, pg_tp 29 rfl, ⟨by decide, by decide, by decide +kernel⟩⟩
set_option maxRecDepth 100000 in
theorem m_Screen_letterFills : pg_mi y_Screen_letterFills b_Screen_letterFills 4 (some .boolean) 2 := ⟨pg_tb 603 rfl rfl, pg_tb 9 rfl rfl, pg_tb 602 rfl rfl, pg_tp 30 rfl, ⟨by decide, by decide, by decide +kernel⟩⟩
set_option maxRecDepth 100000 in
theorem m_Law_cell : pg_ms y_Law_cell b_Law_cell 2 (some .int) 2 := ⟨pg_tb 607 rfl rfl, pg_tb 0 rfl rfl, pg_tb 606 rfl rfl, ⟨by decide, by decide, by decide +kernel⟩⟩
set_option maxRecDepth 100000 in
theorem m_Mod_init : pg_mc y_Mod_init b_Mod_init 3 1 := ⟨pg_tb 612 rfl rfl, pg_tb 11 rfl rfl, pg_tb 611 rfl rfl, rfl, ⟨by decide, by decide, by decide +kernel⟩⟩
set_option maxRecDepth 100000 in
theorem m_Mod_feed : pg_mi y_Mod_feed b_Mod_feed 5 (some .int) 2 := ⟨pg_tb 730 rfl rfl, pg_tb 11 rfl rfl, pg_tb 728 rfl rfl, pg_tb 729 rfl rfl, ⟨by decide, by decide, by decide +kernel⟩⟩
set_option maxRecDepth 100000 in
theorem m_Mod_takePacket : pg_mi y_Mod_takePacket b_Mod_takePacket 7 none 0 := ⟨pg_tb 735 rfl rfl, pg_tb 11 rfl rfl, pg_tb 734 rfl rfl, pg_tp 31 rfl, ⟨by decide, by decide, by decide +kernel⟩⟩
set_option maxRecDepth 100000 in
theorem m_Mod_nibble : pg_mi y_Mod_nibble b_Mod_nibble 8 (some .int) 1 := ⟨pg_tb 739 rfl rfl, pg_tb 11 rfl rfl, pg_tb 738 rfl rfl, pg_tp 32 rfl, ⟨by decide, by decide, by decide +kernel⟩⟩
set_option maxRecDepth 100000 in
theorem m_Mod_codeOf : pg_ms y_Mod_codeOf b_Mod_codeOf 6 (some .int) 1 := ⟨pg_tb 742 rfl rfl, pg_tb 11 rfl rfl, pg_tb 741 rfl rfl, ⟨by decide, by decide, by decide +kernel⟩⟩
set_option maxRecDepth 100000 in
theorem m_Mod_parity : pg_ms y_Mod_parity b_Mod_parity 3 (some .int) 1 := ⟨pg_tb 745 rfl rfl, pg_tb 11 rfl rfl, pg_tb 744 rfl rfl, ⟨by decide, by decide, by decide +kernel⟩⟩
set_option maxRecDepth 100000 in
theorem m_Mod_drop : pg_mi y_Mod_drop b_Mod_drop 1 none 0 := ⟨pg_tb 749 rfl rfl, pg_tb 11 rfl rfl, pg_tb 748 rfl rfl, pg_tp 33 rfl, ⟨by decide, by decide, by decide +kernel⟩⟩
set_option maxRecDepth 100000 in
theorem m_Mod_takeHeader : pg_mi y_Mod_takeHeader b_Mod_takeHeader 10 none 1 := ⟨pg_tb 753 rfl rfl, pg_tb 11 rfl rfl, pg_tb 752 rfl rfl, pg_tp 34 rfl, ⟨by decide, by decide, by decide +kernel⟩⟩
set_option maxRecDepth 100000 in
theorem m_Mod_complete : pg_mi y_Mod_complete b_Mod_complete 3 none 1 := ⟨pg_tb 757 rfl rfl, pg_tb 11 rfl rfl, pg_tb 756 rfl rfl, pg_tp 35 rfl, ⟨by decide, by decide, by decide +kernel⟩⟩
set_option maxRecDepth 100000 in
theorem m_Mod_placeFor : pg_mi y_Mod_placeFor b_Mod_placeFor 6 (some .int) 1 := ⟨pg_tb 761 rfl rfl, pg_tb 11 rfl rfl, pg_tb 760 rfl rfl, pg_tp 36 rfl, ⟨by decide, by decide, by decide +kernel⟩⟩
set_option maxRecDepth 100000 in
theorem m_Mod_keptAt : pg_mi y_Mod_keptAt b_Mod_keptAt 3 (some .int) 1 := ⟨pg_tb 765 rfl rfl, pg_tb 11 rfl rfl, pg_tb 764 rfl rfl, pg_tp 37 rfl, ⟨by decide, by decide, by decide +kernel⟩⟩
set_option maxRecDepth 100000 in
theorem m_Mod_copy : pg_mi y_Mod_copy b_Mod_copy 4 none 2 := ⟨pg_tb 769 rfl rfl, pg_tb 11 rfl rfl, pg_tb 768 rfl rfl, pg_tp 38 rfl, ⟨by decide, by decide, by decide +kernel⟩⟩
set_option maxRecDepth 100000 in
theorem m_Mod_comes : pg_mi y_Mod_comes b_Mod_comes 7 none 5 := ⟨pg_tb 773 rfl rfl, pg_tb 11 rfl rfl, pg_tb 772 rfl rfl, pg_tp 39 rfl, ⟨by decide, by decide, by decide +kernel⟩⟩
set_option maxRecDepth 100000 in
theorem m_Mod_blank : pg_mi y_Mod_blank b_Mod_blank 3 none 1 := ⟨pg_tb 777 rfl rfl, pg_tb 11 rfl rfl, pg_tb 776 rfl rfl, pg_tp 40 rfl, ⟨by decide, by decide, by decide +kernel⟩⟩
set_option maxRecDepth 100000 in
theorem m_Mod_letter : pg_mi y_Mod_letter b_Mod_letter 2 (some .int) 1 := ⟨pg_tb 781 rfl rfl, pg_tb 11 rfl rfl, pg_tb 780 rfl rfl, pg_tp 41 rfl, ⟨by decide, by decide, by decide +kernel⟩⟩
set_option maxRecDepth 100000 in
theorem m_Mod_takeOverlays : pg_mi y_Mod_takeOverlays b_Mod_takeOverlays 9 none 1 := ⟨pg_tb 785 rfl rfl, pg_tb 11 rfl rfl, pg_tb 784 rfl rfl, pg_tp 42 rfl, ⟨by decide, by decide, by decide +kernel⟩⟩
set_option maxRecDepth 100000 in
theorem m_Mod_mended : pg_mi y_Mod_mended b_Mod_mended 6 (some .int) 1 := ⟨pg_tb 790 rfl rfl, pg_tb 11 rfl rfl, pg_tb 789 rfl rfl, pg_tp 43 rfl, ⟨by decide, by decide, by decide +kernel⟩⟩
set_option maxRecDepth 100000 in
theorem m_Mod_told : pg_ms y_Mod_told b_Mod_told 7 (some .int) 3 := ⟨pg_tb 793 rfl rfl, pg_tb 11 rfl rfl, pg_tb 792 rfl rfl, ⟨by decide, by decide, by decide +kernel⟩⟩
set_option maxRecDepth 100000 in
theorem m_Mod_takeLinks : pg_mi y_Mod_takeLinks b_Mod_takeLinks 6 none 1 := ⟨pg_tb 797 rfl rfl, pg_tb 11 rfl rfl, pg_tb 796 rfl rfl, pg_tp 44 rfl, ⟨by decide, by decide, by decide +kernel⟩⟩
set_option maxRecDepth 100000 in
theorem m_Mod_reset : pg_mi y_Mod_reset b_Mod_reset 2 (some .int) 0 := ⟨pg_tb 801 rfl rfl, pg_tb 11 rfl rfl, pg_tb 799 rfl rfl, pg_tb 800 rfl rfl, ⟨by decide, by decide, by decide +kernel⟩⟩
set_option maxRecDepth 100000 in
theorem m_Mod_key : pg_mi y_Mod_key b_Mod_key 4 (some .boolean) 1 := ⟨pg_tb 805 rfl rfl, pg_tb 11 rfl rfl, pg_tb 803 rfl rfl, pg_tb 804 rfl rfl, ⟨by decide, by decide, by decide +kernel⟩⟩
set_option maxRecDepth 100000 in
theorem m_Mod_digit : pg_mi y_Mod_digit b_Mod_digit 2 (some .boolean) 1 := ⟨pg_tb 809 rfl rfl, pg_tb 11 rfl rfl, pg_tb 808 rfl rfl, pg_tp 45 rfl, ⟨by decide, by decide, by decide +kernel⟩⟩
set_option maxRecDepth 100000 in
theorem m_Mod_want : pg_mi y_Mod_want b_Mod_want 2 none 1 := ⟨pg_tb 813 rfl rfl, pg_tb 11 rfl rfl, pg_tb 812 rfl rfl, pg_tp 46 rfl, ⟨by decide, by decide, by decide +kernel⟩⟩
set_option maxRecDepth 100000 in
theorem m_Mod_shownAt : pg_mi y_Mod_shownAt b_Mod_shownAt 1 (some .int) 0 := ⟨pg_tb 817 rfl rfl, pg_tb 11 rfl rfl, pg_tb 816 rfl rfl, pg_tp 47 rfl, ⟨by decide, by decide, by decide +kernel⟩⟩
set_option maxRecDepth 100000 in
theorem m_Mod_tick : pg_mi y_Mod_tick b_Mod_tick 1 (some .boolean) 0 := ⟨pg_tb 821 rfl rfl, pg_tb 11 rfl rfl, pg_tb 819 rfl rfl, pg_tb 820 rfl rfl, ⟨by decide, by decide, by decide +kernel⟩⟩
set_option maxRecDepth 100000 in
theorem m_Mod_shown : pg_mi y_Mod_shown b_Mod_shown 2 (some .int) 0 := ⟨pg_tb 825 rfl rfl, pg_tb 11 rfl rfl, pg_tb 823 rfl rfl, pg_tb 824 rfl rfl, ⟨by decide, by decide, by decide +kernel⟩⟩
set_option maxRecDepth 100000 in
theorem m_Mod_viewer : pg_mi y_Mod_viewer b_Mod_viewer 2 (some .int) 1 := ⟨pg_tb 829 rfl rfl, pg_tb 11 rfl rfl, pg_tb 827 rfl rfl, pg_tb 828 rfl rfl, ⟨by decide, by decide, by decide +kernel⟩⟩
set_option maxRecDepth 100000 in
theorem m_Mod_kept : pg_mi y_Mod_kept b_Mod_kept 4 (some .int) 2 := ⟨pg_tb 833 rfl rfl, pg_tb 11 rfl rfl, pg_tb 831 rfl rfl, pg_tb 832 rfl rfl, ⟨by decide, by decide, by decide +kernel⟩⟩
set_option maxRecDepth 100000 in
theorem m_Mod_count : pg_mi y_Mod_count b_Mod_count 2 (some .int) 1 := ⟨pg_tb 837 rfl rfl, pg_tb 11 rfl rfl, pg_tb 835 rfl rfl, pg_tb 836 rfl rfl, ⟨by decide, by decide, by decide +kernel⟩⟩
set_option maxRecDepth 100000 in
theorem m_Mod_look : pg_mi y_Mod_look b_Mod_look 4 (some .int) 3 := ⟨pg_tb 841 rfl rfl, pg_tb 11 rfl rfl, pg_tb 839 rfl rfl, pg_tb 840 rfl rfl, ⟨by decide, by decide, by decide +kernel⟩⟩
set_option maxRecDepth 100000 in
theorem m_Mod_isCell : pg_ms y_Mod_isCell b_Mod_isCell 2 (some .boolean) 2 := ⟨pg_tb 844 rfl rfl, pg_tb 11 rfl rfl, pg_tb 843 rfl rfl, ⟨by decide, by decide, by decide +kernel⟩⟩
set_option maxRecDepth 100000 in
theorem m_Mod_goTo : pg_mi y_Mod_goTo b_Mod_goTo 6 none 1 := ⟨pg_tb 848 rfl rfl, pg_tb 11 rfl rfl, pg_tb 847 rfl rfl, pg_tp 48 rfl, ⟨by decide, by decide, by decide +kernel⟩⟩
set_option maxRecDepth 100000 in
theorem m_Mod_go : pg_mi y_Mod_go b_Mod_go 8 (some .boolean) 1 := ⟨pg_tb 852 rfl rfl, pg_tb 11 rfl rfl, pg_tb 851 rfl rfl, pg_tp 49 rfl, ⟨by decide, by decide, by decide +kernel⟩⟩
set_option maxRecDepth 100000 in
theorem m_Mod_fetch : pg_mi y_Mod_fetch b_Mod_fetch 4 none 1 := ⟨pg_tb 856 rfl rfl, pg_tb 11 rfl rfl, pg_tb 855 rfl rfl, pg_tp 50 rfl, ⟨by decide, by decide, by decide +kernel⟩⟩
set_option maxRecDepth 100000 in
theorem m_Mod_sign : pg_ms y_Mod_sign b_Mod_sign 1 (some .int) 1 := ⟨pg_tb 859 rfl rfl, pg_tb 11 rfl rfl, pg_tb 858 rfl rfl, ⟨by decide, by decide, by decide +kernel⟩⟩
set_option maxRecDepth 100000 in
theorem m_Mod_begin : pg_mi y_Mod_begin b_Mod_begin 1 none 0 := ⟨pg_tb 863 rfl rfl, pg_tb 11 rfl rfl, pg_tb 862 rfl rfl, pg_tp 51 rfl, ⟨by decide, by decide, by decide +kernel⟩⟩
set_option maxRecDepth 100000 in
theorem m_Mod_forget : pg_mi y_Mod_forget b_Mod_forget 1 none 0 := ⟨pg_tb 867 rfl rfl, pg_tb 11 rfl rfl, pg_tb 866 rfl rfl, pg_tp 52 rfl, ⟨by decide, by decide, by decide +kernel⟩⟩
set_option maxRecDepth 100000 in
theorem m_Mod_noteLetter : pg_mi y_Mod_noteLetter b_Mod_noteLetter 6 none 3 := ⟨pg_tb 871 rfl rfl, pg_tb 11 rfl rfl, pg_tb 870 rfl rfl, pg_tp 53 rfl, ⟨by decide, by decide, by decide +kernel⟩⟩
set_option maxRecDepth 100000 in
theorem m_Mod_note : pg_mi y_Mod_note b_Mod_note 7 none 4 := ⟨pg_tb 875 rfl rfl, pg_tb 11 rfl rfl, pg_tb 874 rfl rfl, pg_tp 54 rfl, ⟨by decide, by decide, by decide +kernel⟩⟩
set_option maxRecDepth 100000 in
theorem m_Mod_changed : pg_ms y_Mod_changed b_Mod_changed 1 (some .int) 1 := ⟨pg_tb 878 rfl rfl, pg_tb 11 rfl rfl, pg_tb 877 rfl rfl, ⟨by decide, by decide, by decide +kernel⟩⟩
set_option maxRecDepth 100000 in
theorem m_Mod_before : pg_mi y_Mod_before b_Mod_before 2 none 1 := ⟨pg_tb 882 rfl rfl, pg_tb 11 rfl rfl, pg_tb 881 rfl rfl, pg_tp 55 rfl, ⟨by decide, by decide, by decide +kernel⟩⟩
set_option maxRecDepth 100000 in
theorem m_Mod_setTwice : pg_mi y_Mod_setTwice b_Mod_setTwice 2 none 1 := ⟨pg_tb 886 rfl rfl, pg_tb 11 rfl rfl, pg_tb 885 rfl rfl, pg_tp 56 rfl, ⟨by decide, by decide, by decide +kernel⟩⟩
set_option maxRecDepth 100000 in
theorem m_Mod_after : pg_mi y_Mod_after b_Mod_after 2 none 1 := ⟨pg_tb 890 rfl rfl, pg_tb 11 rfl rfl, pg_tb 889 rfl rfl, pg_tp 57 rfl, ⟨by decide, by decide, by decide +kernel⟩⟩
set_option maxRecDepth 100000 in
theorem m_Mod_setMosaic : pg_mi y_Mod_setMosaic b_Mod_setMosaic 2 none 1 := ⟨pg_tb 894 rfl rfl, pg_tb 11 rfl rfl, pg_tb 893 rfl rfl, pg_tp 58 rfl, ⟨by decide, by decide, by decide +kernel⟩⟩
set_option maxRecDepth 100000 in
theorem m_Mod_point : pg_mi y_Mod_point b_Mod_point 10 (some .int) 4 := ⟨pg_tb 898 rfl rfl, pg_tb 11 rfl rfl, pg_tb 896 rfl rfl, pg_tb 897 rfl rfl, ⟨by decide, by decide, by decide +kernel⟩⟩
end
section
/-! Packet: leaf methods; isCell; Integer.bitCount is in part 08. -/
set_option maxRecDepth 100000 in
set_option maxHeartbeats 4000000 in
theorem c_Packet_put (w : pf_W) (ok : pf_ok w) (S : pf_S) (v : Int32) (z : Nat) (hz : S 2 0 2 = nI z) (hz2 : z < 22) : pf_C w y_Packet_put b_Packet_put 2 none 0 0 [.ref (w.2.1 2 0), .int v] S (none) (pf_st (pf_st S 3 0 z v) 2 0 2 (S 2 0 2 + 1)) := by
  refine pf_enter (by decide) (Nat.le_of_ble_eq_true rfl) (lv0 := [some (.ref (w.2.1 2 0)), some (.int v)]) rfl (fun κ h => ?_)
  refine pg_aload_n h d_Packet_put_0 rfl ?_
  refine pf_get h ok d_Packet_put_1 f_Packet_18 (by first | rfl | assumption) rfl rfl ?_
  refine pg_bipush (v := 22) h d_Packet_put_4 (by decide) ?_
  refine pg_icmp_ge (tgt := 29) h d_Packet_put_6 rfl (fun e6 => absurd e6 (by rw [hz]; exact nI_ge hz2 (by decide))) (fun e6 => ?_)
  refine pg_aload_n h d_Packet_put_9 rfl ?_
  refine pf_get h ok d_Packet_put_10 f_Packet_9 (by first | rfl | assumption) rfl rfl ?_
  refine pg_aload_n h d_Packet_put_13 rfl ?_
  refine pf_get h ok d_Packet_put_14 f_Packet_18 (by first | rfl | assumption) rfl rfl ?_
  refine pg_iload_n h d_Packet_put_17 rfl ?_
  refine pf_ist h ok d_Packet_put_18 (by first | rfl | assumption) (fun _ => rfl) (pg_ixN hz hz2 (by decide)) ?_
  refine pg_aload_n h d_Packet_put_19 rfl ?_
  refine pg_dup h d_Packet_put_20 rfl ?_
  refine pf_get h ok d_Packet_put_21 f_Packet_18 (by first | rfl | assumption) rfl rfl ?_
  refine pg_iconst (v := 1) h d_Packet_put_24 (by decide) ?_
  refine pg_iadd h d_Packet_put_25 ?_
  refine pf_puti h ok d_Packet_put_26 fw_Packet_18 (by first | rfl | assumption) rfl (Nat.le_of_ble_eq_true rfl) rfl ?_
  exact pf_vret h d_Packet_put_29 rfl

set_option maxRecDepth 100000 in
set_option maxHeartbeats 4000000 in
theorem c_Packet_isWhole (w : pf_W) (ok : pf_ok w) (S : pf_S)  : pf_C w y_Packet_isWhole b_Packet_isWhole 1 (some .boolean) 0 0 [.ref (w.2.1 2 0)] S (some (.int (if S 2 0 2 = 22 then 1 else 0))) (S) := by
  refine pf_enter (by decide) (Nat.le_of_ble_eq_true rfl) (lv0 := [some (.ref (w.2.1 2 0))]) rfl (fun κ h => ?_)
  refine pg_aload_n h d_Packet_isWhole_0 rfl ?_
  refine pf_get h ok d_Packet_isWhole_1 f_Packet_18 (by first | rfl | assumption) rfl rfl ?_
  refine pg_bipush (v := 22) h d_Packet_isWhole_4 (by decide) ?_
  refine pg_icmp_ne (tgt := 13) h d_Packet_isWhole_6 rfl (fun e6 => ?_) (fun e6 => ?_)
  · skip
    refine pg_iconst (v := 0) h d_Packet_isWhole_13 (by decide) ?_
    exact pf_iret h d_Packet_isWhole_14 rfl (by first | rfl | simp [*]) rfl
  refine pg_iconst (v := 1) h d_Packet_isWhole_9 (by decide) ?_
  refine pg_goto (tgt := 14) h d_Packet_isWhole_10 rfl ?_
  exact pf_iret h d_Packet_isWhole_14 rfl (by first | rfl | simp [*]) rfl

set_option maxRecDepth 100000 in
set_option maxHeartbeats 4000000 in
theorem c_Packet_empty (w : pf_W) (ok : pf_ok w) (S : pf_S)  : pf_C w y_Packet_empty b_Packet_empty 2 (some .int) 0 0 [.ref (w.2.1 2 0)] S (some (.int (S 2 0 2))) (pf_st S 2 0 2 0) := by
  refine pf_enter (by decide) (Nat.le_of_ble_eq_true rfl) (lv0 := [some (.ref (w.2.1 2 0)), none]) rfl (fun κ h => ?_)
  refine pg_aload_n h d_Packet_empty_0 rfl ?_
  refine pf_get h ok d_Packet_empty_1 f_Packet_18 (by first | rfl | assumption) rfl rfl ?_
  refine pg_istore_n h d_Packet_empty_4 (Nat.le_of_ble_eq_true rfl) rfl rfl ?_
  refine pg_aload_n h d_Packet_empty_5 rfl ?_
  refine pg_iconst (v := 0) h d_Packet_empty_6 (by decide) ?_
  refine pf_puti h ok d_Packet_empty_7 fw_Packet_18 (by first | rfl | assumption) rfl (Nat.le_of_ble_eq_true rfl) rfl ?_
  refine pg_iload_n h d_Packet_empty_10 rfl ?_
  exact pf_iret h d_Packet_empty_11 rfl (by first | rfl | simp [*]) rfl

set_option maxRecDepth 100000 in
set_option maxHeartbeats 4000000 in
theorem c_Packet_byteAt (w : pf_W) (ok : pf_ok w) (S : pf_S) (i : Nat) (hi : i < 22) : pf_C w y_Packet_byteAt b_Packet_byteAt 2 (some .int) 0 0 [.ref (w.2.1 2 0), .int (nI i)] S (some (.int (S 3 0 i))) (S) := by
  refine pf_enter (by decide) (Nat.le_of_ble_eq_true rfl) (lv0 := [some (.ref (w.2.1 2 0)), some (.int (nI i))]) rfl (fun κ h => ?_)
  refine pg_iload_n h d_Packet_byteAt_0 rfl ?_
  refine pg_if_lt (tgt := 10) h d_Packet_byteAt_1 rfl (fun e1 => absurd e1 (nI_pos (by omega))) (fun e1 => ?_)
  refine pg_iload_n h d_Packet_byteAt_4 rfl ?_
  refine pg_bipush (v := 22) h d_Packet_byteAt_5 (by decide) ?_
  refine pg_icmp_lt (tgt := 14) h d_Packet_byteAt_7 rfl (fun e7 => ?_) (fun e7 => absurd e7 (fun e => e (nI_lt hi (by decide))))
  refine pg_aload_n h d_Packet_byteAt_14 rfl ?_
  refine pf_get h ok d_Packet_byteAt_15 f_Packet_9 (by first | rfl | assumption) rfl rfl ?_
  refine pg_iload_n h d_Packet_byteAt_18 rfl ?_
  refine pf_ild h ok d_Packet_byteAt_19 (by first | rfl | assumption) rfl (pg_ixN rfl hi (by decide)) ?_
  exact pf_iret h d_Packet_byteAt_20 rfl (by first | rfl | simp [*]) rfl

set_option maxRecDepth 100000 in
set_option maxHeartbeats 4000000 in
theorem c_Recv_isCell (w : pf_W) (ok : pf_ok w) (S : pf_S) (r c : Int32) : pf_C w y_Recv_isCell b_Recv_isCell 2 (some .boolean) 0 0 [.int r, .int c] S (some (.int (if ¬ r < 0 ∧ ¬ 8 ≤ r ∧ ¬ c < 0 ∧ ¬ 20 ≤ c then 1 else 0))) (S) := by
  refine pf_enter (by decide) (Nat.le_of_ble_eq_true rfl) (lv0 := [some (.int r), some (.int c)]) rfl (fun κ h => ?_)
  refine pg_iload_n h d_Recv_isCell_0 rfl ?_
  refine pg_if_lt (tgt := 24) h d_Recv_isCell_1 rfl (fun e1 => ?_) (fun e1 => ?_)
  · skip
    refine pg_iconst (v := 0) h d_Recv_isCell_24 (by decide) ?_
    exact pf_iret h d_Recv_isCell_25 rfl (by first | rfl | simp [*]) rfl
  refine pg_iload_n h d_Recv_isCell_4 rfl ?_
  refine pg_bipush (v := 8) h d_Recv_isCell_5 (by decide) ?_
  refine pg_icmp_ge (tgt := 24) h d_Recv_isCell_7 rfl (fun e7 => ?_) (fun e7 => ?_)
  · skip
    refine pg_iconst (v := 0) h d_Recv_isCell_24 (by decide) ?_
    exact pf_iret h d_Recv_isCell_25 rfl (by first | rfl | simp [*]) rfl
  refine pg_iload_n h d_Recv_isCell_10 rfl ?_
  refine pg_if_lt (tgt := 24) h d_Recv_isCell_11 rfl (fun e11 => ?_) (fun e11 => ?_)
  · skip
    refine pg_iconst (v := 0) h d_Recv_isCell_24 (by decide) ?_
    exact pf_iret h d_Recv_isCell_25 rfl (by first | rfl | simp [*]) rfl
  refine pg_iload_n h d_Recv_isCell_14 rfl ?_
  refine pg_bipush (v := 20) h d_Recv_isCell_15 (by decide) ?_
  refine pg_icmp_ge (tgt := 24) h d_Recv_isCell_17 rfl (fun e17 => ?_) (fun e17 => ?_)
  · skip
    refine pg_iconst (v := 0) h d_Recv_isCell_24 (by decide) ?_
    exact pf_iret h d_Recv_isCell_25 rfl (by first | rfl | simp [*]) rfl
  refine pg_iconst (v := 1) h d_Recv_isCell_20 (by decide) ?_
  refine pg_goto (tgt := 25) h d_Recv_isCell_21 rfl ?_
  exact pf_iret h d_Recv_isCell_25 rfl (by first | rfl | simp [*]) rfl
end
section
/-! Integer.bitCount, and what Packet reads out of its bytes. -/
section PGLDCW
variable {κ : pg_K} {z : pg_Z} {y : MethodName} {cc : ByteArray} {nL : Nat} {ret : Option FieldType} {rm : Room} {ce sl : Nat} {Q : State → Prop} {Pic : Heap → Prop} {pc : Nat} {lv : List (Option Value)} {st : List Value}
theorem pg_ldcw {idx : Nat} {v : Int32} (h : pg_X κ z y cc nL ret rm) (d : decode cc pc = .ok (.ldc_w idx, 3)) (hc : Cond.constant y.cls idx v ∈ pg_ws) (k : pg_G κ z nL ce sl Q Pic (pc + 3) lv (.int v :: st)) : pg_G κ z nL ce sl Q Pic pc lv st := fun H locs ls hP hS hl => lv_ldcw h.1 h.2.1 h.2.2.2.1 (h.2.2.2.2.1 _ hc) d (k H locs ls hP hS hl)
end PGLDCW

/-- an unsigned shift to the right -/
def us (x n : Int32) : Int32 := (x.toUInt32 >>> (n.toUInt32 &&& Int32.toUInt32 31)).toInt32
def bc1 (x : Int32) : Int32 := x - (us x 1 &&& 1431655765)
def bc2 (x : Int32) : Int32 := (x &&& 858993459) + (us x 2 &&& 858993459)
def bc3 (x : Int32) : Int32 := (x + us x 4) &&& 252645135
def bc4 (x : Int32) : Int32 := x + us x 8
def bc5 (x : Int32) : Int32 := x + us x 16
/-- Integer.bitCount -/
def bcF (x : Int32) : Int32 := bc5 (bc4 (bc3 (bc2 (bc1 x)))) &&& 63
/-- bitCount is odd -/
def oddP (x : Int32) : Prop := bcF x - bcF x / 2 * 2 = 1
noncomputable def odF (x : Int32) : Int32 := @ite _ (oddP x) (Classical.propDecidable _) 1 0

set_option maxRecDepth 100000 in
set_option maxHeartbeats 4000000 in
theorem c_JInt_bitCount (w : pf_W) (ok : pf_ok w) (S : pf_S) (x : Int32) : pf_C w y_JInt_bitCount b_JInt_bitCount 1 (some .int) 0 0 [.int x] S (some (.int (bcF x))) (S) := by
  refine pf_enter (by decide) (Nat.le_of_ble_eq_true rfl) (lv0 := [some (.int x)]) rfl (fun κ h => ?_)
  refine pg_iload_n h d_JInt_bitCount_0 rfl ?_
  refine pg_iload_n h d_JInt_bitCount_1 rfl ?_
  refine pg_iconst (v := 1) h d_JInt_bitCount_2 (by decide) ?_
  refine pg_iushr h d_JInt_bitCount_3 ?_
  refine pg_ldcw (v := 1431655765) h d_JInt_bitCount_4 (pg_tb 307 rfl rfl) ?_
  refine pg_iand h d_JInt_bitCount_7 ?_
  refine pg_isub h d_JInt_bitCount_8 ?_
  refine pg_istore_n h d_JInt_bitCount_9 (Nat.le_of_ble_eq_true rfl) rfl rfl ?_
  refine pg_iload_n h d_JInt_bitCount_10 rfl ?_
  refine pg_ldcw (v := 858993459) h d_JInt_bitCount_11 (pg_tb 308 rfl rfl) ?_
  refine pg_iand h d_JInt_bitCount_14 ?_
  refine pg_iload_n h d_JInt_bitCount_15 rfl ?_
  refine pg_iconst (v := 2) h d_JInt_bitCount_16 (by decide) ?_
  refine pg_iushr h d_JInt_bitCount_17 ?_
  refine pg_ldcw (v := 858993459) h d_JInt_bitCount_18 (pg_tb 308 rfl rfl) ?_
  refine pg_iand h d_JInt_bitCount_21 ?_
  refine pg_iadd h d_JInt_bitCount_22 ?_
  refine pg_istore_n h d_JInt_bitCount_23 (Nat.le_of_ble_eq_true rfl) rfl rfl ?_
  refine pg_iload_n h d_JInt_bitCount_24 rfl ?_
  refine pg_iload_n h d_JInt_bitCount_25 rfl ?_
  refine pg_iconst (v := 4) h d_JInt_bitCount_26 (by decide) ?_
  refine pg_iushr h d_JInt_bitCount_27 ?_
  refine pg_iadd h d_JInt_bitCount_28 ?_
  refine pg_ldcw (v := 252645135) h d_JInt_bitCount_29 (pg_tb 309 rfl rfl) ?_
  refine pg_iand h d_JInt_bitCount_32 ?_
  refine pg_istore_n h d_JInt_bitCount_33 (Nat.le_of_ble_eq_true rfl) rfl rfl ?_
  refine pg_iload_n h d_JInt_bitCount_34 rfl ?_
  refine pg_iload_n h d_JInt_bitCount_35 rfl ?_
  refine pg_bipush (v := 8) h d_JInt_bitCount_36 (by decide) ?_
  refine pg_iushr h d_JInt_bitCount_38 ?_
  refine pg_iadd h d_JInt_bitCount_39 ?_
  refine pg_istore_n h d_JInt_bitCount_40 (Nat.le_of_ble_eq_true rfl) rfl rfl ?_
  refine pg_iload_n h d_JInt_bitCount_41 rfl ?_
  refine pg_iload_n h d_JInt_bitCount_42 rfl ?_
  refine pg_bipush (v := 16) h d_JInt_bitCount_43 (by decide) ?_
  refine pg_iushr h d_JInt_bitCount_45 ?_
  refine pg_iadd h d_JInt_bitCount_46 ?_
  refine pg_istore_n h d_JInt_bitCount_47 (Nat.le_of_ble_eq_true rfl) rfl rfl ?_
  refine pg_iload_n h d_JInt_bitCount_48 rfl ?_
  refine pg_bipush (v := 63) h d_JInt_bitCount_49 (by decide) ?_
  refine pg_iand h d_JInt_bitCount_51 ?_
  exact pf_iret h d_JInt_bitCount_52 rfl (by first | rfl | simp [*]) rfl

theorem odF_0 (x : Int32) : odF x = 0 ↔ ¬ oddP x := by
  unfold odF
  by_cases h : oddP x
  · simp [h]
  · simp [h]
theorem odF_t {x : Int32} (h : oddP x) : odF x = 1 := by simp [odF, h]
theorem odF_f {x : Int32} (h : ¬ oddP x) : odF x = 0 := by simp [odF, h]

set_option maxRecDepth 100000 in
set_option maxHeartbeats 4000000 in
theorem c_Packet_isOdd (w : pf_W) (ok : pf_ok w) (S : pf_S) (x : Int32) : pf_C w y_Packet_isOdd b_Packet_isOdd 1 (some .boolean) 1 20 [.int x] S (some (.int (odF x))) (S) := by
  refine pf_enter (by decide) (Nat.le_of_ble_eq_true rfl) (lv0 := [some (.int x)]) rfl (fun κ h => ?_)
  refine pg_iload_n h d_Packet_isOdd_0 rfl ?_
  refine pg_cS h d_Packet_isOdd_1 m_JInt_bitCount l_Packet_29 (c_JInt_bitCount w ok S x) rfl rfl (Nat.le_of_ble_eq_true rfl) ⟨(Nat.le_of_ble_eq_true rfl), (Nat.le_of_ble_eq_true rfl)⟩ ⟨Nat.le_refl _, Nat.le_refl _⟩ ?_
  refine pg_iconst (v := 2) h d_Packet_isOdd_4 (by decide) ?_
  refine pg_irem h d_Packet_isOdd_5 (by decide) ?_
  refine pg_iconst (v := 1) h d_Packet_isOdd_6 (by decide) ?_
  refine pg_icmp_ne (tgt := 14) h d_Packet_isOdd_7 rfl (fun e7 => ?_) (fun e7 => ?_)
  · skip
    refine pg_iconst (v := 0) h d_Packet_isOdd_14 (by decide) ?_
    exact pf_iret h d_Packet_isOdd_15 rfl (by first | exact congrArg (fun q => some (Value.int q)) (odF_f e7) | exact congrArg (fun q => some (Value.int q)) (odF_t e7)) rfl
  refine pg_iconst (v := 1) h d_Packet_isOdd_10 (by decide) ?_
  refine pg_goto (tgt := 15) h d_Packet_isOdd_11 rfl ?_
  exact pf_iret h d_Packet_isOdd_15 rfl (by first | exact congrArg (fun q => some (Value.int q)) (odF_f e7) | exact congrArg (fun q => some (Value.int q)) (odF_t e7)) rfl

noncomputable def letV (b : Int32) : Int32 := if odF b = 0 then -1 else b &&& 127
noncomputable def letT (S : pf_S) (b : Int32) : pf_S := if odF b = 0 then pf_st S 1 0 4 (S 1 0 4 + 1) else S

set_option maxRecDepth 100000 in
set_option maxHeartbeats 4000000 in
theorem c_Packet_letter (w : pf_W) (ok : pf_ok w) (S : pf_S) (i : Nat) (hi : i < 22) : pf_C w y_Packet_letter b_Packet_letter 3 (some .int) 2 40 [.ref (w.2.1 2 0), .int (nI i)] S (some (.int (letV (S 3 0 i)))) (letT S (S 3 0 i)) := by
  refine pf_enter (by decide) (Nat.le_of_ble_eq_true rfl) (lv0 := [some (.ref (w.2.1 2 0)), some (.int (nI i)), none]) rfl (fun κ h => ?_)
  refine pg_aload_n h d_Packet_letter_0 rfl ?_
  refine pg_iload_n h d_Packet_letter_1 rfl ?_
  refine pf_cV h ok d_Packet_letter_2 m_Packet_byteAt l_Packet_25 (c_Packet_byteAt w ok S i hi) cn_Packet (by first | rfl | assumption) rfl rfl rfl (Nat.le_of_ble_eq_true rfl) ⟨(Nat.le_of_ble_eq_true rfl), (Nat.le_of_ble_eq_true rfl)⟩ ⟨Nat.le_refl _, Nat.le_refl _⟩ ?_
  refine pg_istore_n h d_Packet_letter_5 (Nat.le_of_ble_eq_true rfl) rfl rfl ?_
  refine pg_iload_n h d_Packet_letter_6 rfl ?_
  refine pg_cS h d_Packet_letter_7 m_Packet_isOdd l_Packet_34 (c_Packet_isOdd w ok S _) rfl rfl (Nat.le_of_ble_eq_true rfl) ⟨(Nat.le_of_ble_eq_true rfl), (Nat.le_of_ble_eq_true rfl)⟩ ⟨Nat.le_refl _, Nat.le_refl _⟩ ?_
  refine pg_if_ne (tgt := 25) h d_Packet_letter_10 rfl (fun e10 => ?_) (fun e10 => ?_)
  · skip
    refine pg_iload_n h d_Packet_letter_25 rfl ?_
    refine pg_bipush (v := 127) h d_Packet_letter_26 (by decide) ?_
    refine pg_iand h d_Packet_letter_28 ?_
    exact pf_iret h d_Packet_letter_29 rfl (by simp [letV, e10]) (by simp [letT, e10])
  refine pg_aload_n h d_Packet_letter_13 rfl ?_
  refine pf_get h ok d_Packet_letter_14 f_Packet_15 (by first | rfl | assumption) rfl rfl ?_
  refine pg_iconst (v := 4) h d_Packet_letter_17 (by decide) ?_
  refine pg_dup2 h d_Packet_letter_18 rfl rfl ?_
  refine pf_ild h ok d_Packet_letter_19 (by first | rfl | assumption) rfl (pg_ixN (j := 4) rfl (by decide) (by decide)) ?_
  refine pg_iconst (v := 1) h d_Packet_letter_20 (by decide) ?_
  refine pg_iadd h d_Packet_letter_21 ?_
  refine pf_ist h ok d_Packet_letter_22 (by first | rfl | assumption) (fun _ => rfl) (pg_ixN (j := 4) rfl (by decide) (by decide)) ?_
  refine pg_iconst (v := (-1)) h d_Packet_letter_23 (by decide) ?_
  exact pf_iret h d_Packet_letter_24 rfl (by simp [letV, e10]) (by simp [letT, e10])

def bitsF (p : Int32) : Int32 := ((p >>> ((2 : Int32) &&& 31)) &&& 1) ||| (((p >>> ((4 : Int32) &&& 31)) &&& 7) <<< ((1 : Int32) &&& 31)) ||| (((p >>> ((8 : Int32) &&& 31)) &&& 127) <<< ((4 : Int32) &&& 31)) ||| (((p >>> ((16 : Int32) &&& 31)) &&& 127) <<< ((11 : Int32) &&& 31))

set_option maxRecDepth 100000 in
set_option maxHeartbeats 4000000 in
theorem c_Packet_bitsOf (w : pf_W) (ok : pf_ok w) (S : pf_S) (p : Int32) : pf_C w y_Packet_bitsOf b_Packet_bitsOf 1 (some .int) 0 0 [.int p] S (some (.int (bitsF p))) (S) := by
  refine pf_enter (by decide) (Nat.le_of_ble_eq_true rfl) (lv0 := [some (.int p)]) rfl (fun κ h => ?_)
  refine pg_iload_n h d_Packet_bitsOf_0 rfl ?_
  refine pg_iconst (v := 2) h d_Packet_bitsOf_1 (by decide) ?_
  refine pg_ishr h d_Packet_bitsOf_2 ?_
  refine pg_iconst (v := 1) h d_Packet_bitsOf_3 (by decide) ?_
  refine pg_iand h d_Packet_bitsOf_4 ?_
  refine pg_iload_n h d_Packet_bitsOf_5 rfl ?_
  refine pg_iconst (v := 4) h d_Packet_bitsOf_6 (by decide) ?_
  refine pg_ishr h d_Packet_bitsOf_7 ?_
  refine pg_bipush (v := 7) h d_Packet_bitsOf_8 (by decide) ?_
  refine pg_iand h d_Packet_bitsOf_10 ?_
  refine pg_iconst (v := 1) h d_Packet_bitsOf_11 (by decide) ?_
  refine pg_ishl h d_Packet_bitsOf_12 ?_
  refine pg_ior h d_Packet_bitsOf_13 ?_
  refine pg_iload_n h d_Packet_bitsOf_14 rfl ?_
  refine pg_bipush (v := 8) h d_Packet_bitsOf_15 (by decide) ?_
  refine pg_ishr h d_Packet_bitsOf_17 ?_
  refine pg_bipush (v := 127) h d_Packet_bitsOf_18 (by decide) ?_
  refine pg_iand h d_Packet_bitsOf_20 ?_
  refine pg_iconst (v := 4) h d_Packet_bitsOf_21 (by decide) ?_
  refine pg_ishl h d_Packet_bitsOf_22 ?_
  refine pg_ior h d_Packet_bitsOf_23 ?_
  refine pg_iload_n h d_Packet_bitsOf_24 rfl ?_
  refine pg_bipush (v := 16) h d_Packet_bitsOf_25 (by decide) ?_
  refine pg_ishr h d_Packet_bitsOf_27 ?_
  refine pg_bipush (v := 127) h d_Packet_bitsOf_28 (by decide) ?_
  refine pg_iand h d_Packet_bitsOf_30 ?_
  refine pg_bipush (v := 11) h d_Packet_bitsOf_31 (by decide) ?_
  refine pg_ishl h d_Packet_bitsOf_33 ?_
  refine pg_ior h d_Packet_bitsOf_34 ?_
  exact pf_iret h d_Packet_bitsOf_35 rfl (by first | rfl | simp [*]) rfl

noncomputable def failTo (p : Int32) : Nat → Int32
  | 0 => 0
  | j + 1 => if odF (p &&& pg_cp j) = 0 then failTo p j + 1 <<< (nI j &&& 31) else failTo p j

set_option maxRecDepth 100000 in
set_option maxHeartbeats 4000000 in
theorem c_Packet_failingSum (w : pf_W) (ok : pf_ok w) (S : pf_S) (p : Int32) : pf_C w y_Packet_failingSum b_Packet_failingSum 3 (some .int) 2 40 [.int p] S (some (.int (failTo p 5))) (S) := by
  refine pf_enter (by decide) (Nat.le_of_ble_eq_true rfl) (lv0 := [some (.int p), none, none]) rfl (fun κ h => ?_)
  have loop : ∀ n j : Nat, j + n = 5 → pg_G κ w.1 3 0 0 (pg_Q κ w.1 (fun r' H => r' = (some (.int (failTo p 5))) ∧ pf_P w (S) H) 0 0) (pf_P w (S)) 4 [some (.int p), some (.int (failTo p j)), some (.int (nI j))] [] := by
    intro n
    induction n with
    | zero =>
      intro j hj
      have hj : j = 5 := by omega
      subst hj
      refine pg_iload_n h d_Packet_failingSum_4 rfl ?_
      refine pg_gsCP (host := "PageReceiver") h d_Packet_failingSum_5 (List.mem_of_getElem? (i := 36) rfl) ?_
      refine pg_lenCP h d_Packet_failingSum_8 ?_
      refine pg_icmp_ge (tgt := 37) h d_Packet_failingSum_9 rfl (fun e9 => ?_) (fun e9 => absurd e9 (fun e => e (by decide)))
      refine pg_iload_n h d_Packet_failingSum_37 rfl ?_
      exact pf_iret h d_Packet_failingSum_38 rfl (by first | rfl | simp [*]) rfl
    | succ n ih =>
      intro j hj
      refine pg_iload_n h d_Packet_failingSum_4 rfl ?_
      refine pg_gsCP (host := "PageReceiver") h d_Packet_failingSum_5 (List.mem_of_getElem? (i := 36) rfl) ?_
      refine pg_lenCP h d_Packet_failingSum_8 ?_
      refine pg_icmp_ge (tgt := 37) h d_Packet_failingSum_9 rfl (fun e9 => absurd e9 (nI_ge (show j < 5 by omega) (by decide))) (fun e9 => ?_)
      refine pg_iload_n h d_Packet_failingSum_12 rfl ?_
      refine pg_gsCP (host := "PageReceiver") h d_Packet_failingSum_13 (List.mem_of_getElem? (i := 36) rfl) ?_
      refine pg_iload_n h d_Packet_failingSum_16 rfl ?_
      refine pg_ldCP h d_Packet_failingSum_17 (pg_ixN rfl (show j < 5 by omega) (by decide)) ?_
      refine pg_iand h d_Packet_failingSum_18 ?_
      refine pg_cS h d_Packet_failingSum_19 m_Packet_isOdd l_Packet_34 (c_Packet_isOdd w ok S _) rfl rfl (Nat.le_of_ble_eq_true rfl) ⟨(Nat.le_of_ble_eq_true rfl), (Nat.le_of_ble_eq_true rfl)⟩ ⟨Nat.le_refl _, Nat.le_refl _⟩ ?_
      refine pg_if_ne (tgt := 31) h d_Packet_failingSum_22 rfl (fun e22 => ?_) (fun e22 => ?_)
      · skip
        refine pg_iinc (w := 1) h d_Packet_failingSum_31 rfl (by decide) (Nat.le_of_ble_eq_true rfl) rfl rfl ?_
        refine pg_goto (tgt := 4) h d_Packet_failingSum_34 rfl ?_
        have q := ih (j + 1) (by omega)
        first | (rw [nI_succ, show failTo p (j + 1) = failTo p j from if_neg e22] at q; exact q) | (rw [nI_succ, show failTo p (j + 1) = failTo p j + 1 <<< (nI j &&& 31) from if_pos e22] at q; exact q)
      refine pg_iload_n h d_Packet_failingSum_25 rfl ?_
      refine pg_iconst (v := 1) h d_Packet_failingSum_26 (by decide) ?_
      refine pg_iload_n h d_Packet_failingSum_27 rfl ?_
      refine pg_ishl h d_Packet_failingSum_28 ?_
      refine pg_iadd h d_Packet_failingSum_29 ?_
      refine pg_istore_n h d_Packet_failingSum_30 (Nat.le_of_ble_eq_true rfl) rfl rfl ?_
      refine pg_iinc (w := 1) h d_Packet_failingSum_31 rfl (by decide) (Nat.le_of_ble_eq_true rfl) rfl rfl ?_
      refine pg_goto (tgt := 4) h d_Packet_failingSum_34 rfl ?_
      have q := ih (j + 1) (by omega)
      first | (rw [nI_succ, show failTo p (j + 1) = failTo p j from if_neg e22] at q; exact q) | (rw [nI_succ, show failTo p (j + 1) = failTo p j + 1 <<< (nI j &&& 31) from if_pos e22] at q; exact q)
  refine pg_iconst (v := 0) h d_Packet_failingSum_0 (by decide) ?_
  refine pg_istore_n h d_Packet_failingSum_1 (Nat.le_of_ble_eq_true rfl) rfl rfl ?_
  refine pg_iconst (v := 0) h d_Packet_failingSum_2 (by decide) ?_
  refine pg_istore_n h d_Packet_failingSum_3 (Nat.le_of_ble_eq_true rfl) rfl rfl ?_
  exact loop 5 0 rfl
end
section
/-! Packet.nibble, Packet.triplet; Arrays.fill; System.arraycopy over the flat memory. -/
def nibFrom (b : Int32) : Nat → Nat → Option Nat
  | 0, _ => none
  | n + 1, d => if 1 < bcF (pg_cw d ^^^ b) then nibFrom b n (d + 1) else some d
/-- the nibble of a byte -/
def nibD (b : Int32) : Option Nat := nibFrom b 16 0
def nibV (b : Int32) : Int32 := match nibD b with
  | none => -1
  | some d => nI d
def nibT (S : pf_S) (b : Int32) : pf_S := match nibD b with
  | none => pf_st S 1 0 3 (S 1 0 3 + 1)
  | some d => pf_st S 1 0 2 (S 1 0 2 + bcF (pg_cw d ^^^ b))

set_option maxRecDepth 100000 in
set_option maxHeartbeats 4000000 in
theorem c_Packet_nibble (w : pf_W) (ok : pf_ok w) (S : pf_S) (i : Nat) (hi : i < 22) : pf_C w y_Packet_nibble b_Packet_nibble 4 (some .int) 1 21 [.ref (w.2.1 2 0), .int (nI i)] S (some (.int (nibV (S 3 0 i)))) (nibT S (S 3 0 i)) := by
  refine pf_enter (by decide) (Nat.le_of_ble_eq_true rfl) (lv0 := [some (.ref (w.2.1 2 0)), some (.int (nI i)), none, none]) rfl (fun κ h => ?_)
  have loop : ∀ (n d : Nat) (X : Option Value), d + n = 16 → nibFrom (S 3 0 i) n d = nibD (S 3 0 i) → pg_G κ w.1 4 0 0 (pg_Q κ w.1 (fun r' H => r' = (some (.int (nibV (S 3 0 i)))) ∧ pf_P w (nibT S (S 3 0 i)) H) 0 0) (pf_P w (S)) 2 [some (.ref (w.2.1 2 0)), some (.int (nI i)), some (.int (nI d)), X] [] := by
    intro n
    induction n with
    | zero =>
      intro d X hd hI
      have hd : d = 16 := by omega
      subst hd
      refine pg_iload_n h d_Packet_nibble_2 rfl ?_
      refine pg_gsCW (host := "PageReceiver") h d_Packet_nibble_3 (List.mem_of_getElem? (i := 35) rfl) ?_
      refine pg_lenCW h d_Packet_nibble_6 ?_
      refine pg_icmp_ge (tgt := 48) h d_Packet_nibble_7 rfl (fun e7 => ?_) (fun e7 => absurd e7 (fun e => e (by decide)))
      refine pg_aload_n h d_Packet_nibble_48 rfl ?_
      refine pf_get h ok d_Packet_nibble_49 f_Packet_15 (by first | rfl | assumption) rfl rfl ?_
      refine pg_iconst (v := 3) h d_Packet_nibble_52 (by decide) ?_
      refine pg_dup2 h d_Packet_nibble_53 rfl rfl ?_
      refine pf_ild h ok d_Packet_nibble_54 (by first | rfl | assumption) rfl (pg_ixN (j := 3) rfl (by decide) (by decide)) ?_
      refine pg_iconst (v := 1) h d_Packet_nibble_55 (by decide) ?_
      refine pg_iadd h d_Packet_nibble_56 ?_
      refine pf_ist h ok d_Packet_nibble_57 (by first | rfl | assumption) (fun _ => rfl) (pg_ixN (j := 3) rfl (by decide) (by decide)) ?_
      refine pg_iconst (v := (-1)) h d_Packet_nibble_58 (by decide) ?_
      exact pf_iret h d_Packet_nibble_59 rfl (by rw [nibV, ← hI]; rfl) (by rw [nibT, ← hI]; rfl)
    | succ n ih =>
      intro d X hd hI
      refine pg_iload_n h d_Packet_nibble_2 rfl ?_
      refine pg_gsCW (host := "PageReceiver") h d_Packet_nibble_3 (List.mem_of_getElem? (i := 35) rfl) ?_
      refine pg_lenCW h d_Packet_nibble_6 ?_
      refine pg_icmp_ge (tgt := 48) h d_Packet_nibble_7 rfl (fun e7 => absurd e7 (nI_ge (show d < 16 by omega) (by decide))) (fun e7 => ?_)
      refine pg_gsCW (host := "PageReceiver") h d_Packet_nibble_10 (List.mem_of_getElem? (i := 35) rfl) ?_
      refine pg_iload_n h d_Packet_nibble_13 rfl ?_
      refine pg_ldCW h d_Packet_nibble_14 (pg_ixN rfl (show d < 16 by omega) (by decide)) ?_
      refine pg_aload_n h d_Packet_nibble_15 rfl ?_
      refine pg_iload_n h d_Packet_nibble_16 rfl ?_
      refine pf_cV h ok d_Packet_nibble_17 m_Packet_byteAt l_Packet_25 (c_Packet_byteAt w ok S i hi) cn_Packet (by first | rfl | assumption) rfl rfl rfl (Nat.le_of_ble_eq_true rfl) ⟨(Nat.le_of_ble_eq_true rfl), (Nat.le_of_ble_eq_true rfl)⟩ ⟨Nat.le_refl _, Nat.le_refl _⟩ ?_
      refine pg_ixor h d_Packet_nibble_20 ?_
      refine pg_cS h d_Packet_nibble_21 m_JInt_bitCount l_Packet_29 (c_JInt_bitCount w ok S _) rfl rfl (Nat.le_of_ble_eq_true rfl) ⟨(Nat.le_of_ble_eq_true rfl), (Nat.le_of_ble_eq_true rfl)⟩ ⟨Nat.le_refl _, Nat.le_refl _⟩ ?_
      refine pg_istore_n h d_Packet_nibble_24 (Nat.le_of_ble_eq_true rfl) rfl rfl ?_
      refine pg_iload_n h d_Packet_nibble_25 rfl ?_
      refine pg_iconst (v := 1) h d_Packet_nibble_26 (by decide) ?_
      refine pg_icmp_gt (tgt := 42) h d_Packet_nibble_27 rfl (fun e27 => ?_) (fun e27 => ?_)
      · skip
        refine pg_iinc (w := 1) h d_Packet_nibble_42 rfl (by decide) (Nat.le_of_ble_eq_true rfl) rfl rfl ?_
        refine pg_goto (tgt := 2) h d_Packet_nibble_45 rfl ?_
        rw [← nI_succ d]
        exact ih (d + 1) _ (by omega) (by rw [nibFrom, if_pos e27] at hI; exact hI)
      refine pg_aload_n h d_Packet_nibble_30 rfl ?_
      refine pf_get h ok d_Packet_nibble_31 f_Packet_15 (by first | rfl | assumption) rfl rfl ?_
      refine pg_iconst (v := 2) h d_Packet_nibble_34 (by decide) ?_
      refine pg_dup2 h d_Packet_nibble_35 rfl rfl ?_
      refine pf_ild h ok d_Packet_nibble_36 (by first | rfl | assumption) rfl (pg_ixN (j := 2) rfl (by decide) (by decide)) ?_
      refine pg_iload_n h d_Packet_nibble_37 rfl ?_
      refine pg_iadd h d_Packet_nibble_38 ?_
      refine pf_ist h ok d_Packet_nibble_39 (by first | rfl | assumption) (fun _ => rfl) (pg_ixN (j := 2) rfl (by decide) (by decide)) ?_
      refine pg_iload_n h d_Packet_nibble_40 rfl ?_
      exact pf_iret h d_Packet_nibble_41 rfl (by rw [nibV, ← hI, nibFrom, if_neg e27]) (by rw [nibT, ← hI, nibFrom, if_neg e27])
  refine pg_iconst (v := 0) h d_Packet_nibble_0 (by decide) ?_
  refine pg_istore_n h d_Packet_nibble_1 (Nat.le_of_ble_eq_true rfl) rfl rfl ?_
  exact loop 16 0 none rfl rfl

/-- the 24 bits of a triplet, as its three bytes stand -/
def plF (S : pf_S) (i : Nat) : Int32 := S 3 0 i ||| (S 3 0 (i + 1) <<< ((8 : Int32) &&& 31)) ||| (S 3 0 (i + 2) <<< ((16 : Int32) &&& 31))
noncomputable def tripV (p f : Int32) : Int32 := if odF p = 0 then (if f < 24 then bitsF (p ^^^ ((1 : Int32) <<< ((if f = 0 then 24 else f) - 1 &&& 31))) else -1) else (if f = 0 then bitsF p else -1)
noncomputable def tripT (S : pf_S) (p f : Int32) : pf_S := if odF p = 0 then (if f < 24 then pf_st S 1 0 2 (S 1 0 2 + 1) else pf_st S 1 0 3 (S 1 0 3 + 1)) else (if f = 0 then S else pf_st S 1 0 3 (S 1 0 3 + 1))


set_option maxRecDepth 100000 in
set_option maxHeartbeats 4000000 in
theorem c_Packet_triplet (w : pf_W) (ok : pf_ok w) (S : pf_S) (i : Nat) (hi : i + 2 < 22) : pf_C w y_Packet_triplet b_Packet_triplet 5 (some .int) 3 62 [.ref (w.2.1 2 0), .int (nI i)] S (some (.int (tripV (plF S i) (failTo (plF S i) 5)))) (tripT S (plF S i) (failTo (plF S i) 5)) := by
  refine pf_enter (by decide) (Nat.le_of_ble_eq_true rfl) (lv0 := [some (.ref (w.2.1 2 0)), some (.int (nI i)), none, none, none]) rfl (fun κ h => ?_)
  refine pg_aload_n h d_Packet_triplet_0 rfl ?_
  refine pg_iload_n h d_Packet_triplet_1 rfl ?_
  refine pf_cV h ok d_Packet_triplet_2 m_Packet_byteAt l_Packet_25 (c_Packet_byteAt w ok S i (by omega)) cn_Packet (by first | rfl | assumption) rfl rfl rfl (Nat.le_of_ble_eq_true rfl) ⟨(Nat.le_of_ble_eq_true rfl), (Nat.le_of_ble_eq_true rfl)⟩ ⟨Nat.le_refl _, Nat.le_refl _⟩ ?_
  refine pg_aload_n h d_Packet_triplet_5 rfl ?_
  refine pg_iload_n h d_Packet_triplet_6 rfl ?_
  refine pg_iconst (v := 1) h d_Packet_triplet_7 (by decide) ?_
  refine pg_iadd h d_Packet_triplet_8 ?_
  rw [nI_1 i]
  refine pf_cV h ok d_Packet_triplet_9 m_Packet_byteAt l_Packet_25 (c_Packet_byteAt w ok S (i + 1) (by omega)) cn_Packet (by first | rfl | assumption) rfl rfl rfl (Nat.le_of_ble_eq_true rfl) ⟨(Nat.le_of_ble_eq_true rfl), (Nat.le_of_ble_eq_true rfl)⟩ ⟨Nat.le_refl _, Nat.le_refl _⟩ ?_
  refine pg_bipush (v := 8) h d_Packet_triplet_12 (by decide) ?_
  refine pg_ishl h d_Packet_triplet_14 ?_
  refine pg_ior h d_Packet_triplet_15 ?_
  refine pg_aload_n h d_Packet_triplet_16 rfl ?_
  refine pg_iload_n h d_Packet_triplet_17 rfl ?_
  refine pg_iconst (v := 2) h d_Packet_triplet_18 (by decide) ?_
  refine pg_iadd h d_Packet_triplet_19 ?_
  rw [show nI i + 2 = nI (i + 2) from nI_add i 2]
  refine pf_cV h ok d_Packet_triplet_20 m_Packet_byteAt l_Packet_25 (c_Packet_byteAt w ok S (i + 2) hi) cn_Packet (by first | rfl | assumption) rfl rfl rfl (Nat.le_of_ble_eq_true rfl) ⟨(Nat.le_of_ble_eq_true rfl), (Nat.le_of_ble_eq_true rfl)⟩ ⟨Nat.le_refl _, Nat.le_refl _⟩ ?_
  refine pg_bipush (v := 16) h d_Packet_triplet_23 (by decide) ?_
  refine pg_ishl h d_Packet_triplet_25 ?_
  refine pg_ior h d_Packet_triplet_26 ?_
  refine pg_istore_n h d_Packet_triplet_27 (Nat.le_of_ble_eq_true rfl) rfl rfl ?_
  refine pg_iload_n h d_Packet_triplet_28 rfl ?_
  refine pg_cS h d_Packet_triplet_29 m_Packet_failingSum l_Packet_38 (c_Packet_failingSum w ok S _) rfl rfl (Nat.le_of_ble_eq_true rfl) ⟨(Nat.le_of_ble_eq_true rfl), (Nat.le_of_ble_eq_true rfl)⟩ ⟨Nat.le_refl _, Nat.le_refl _⟩ ?_
  refine pg_istore_n h d_Packet_triplet_32 (Nat.le_of_ble_eq_true rfl) rfl rfl ?_
  refine pg_iload_n h d_Packet_triplet_33 rfl ?_
  refine pg_cS h d_Packet_triplet_34 m_Packet_isOdd l_Packet_34 (c_Packet_isOdd w ok S _) rfl rfl (Nat.le_of_ble_eq_true rfl) ⟨(Nat.le_of_ble_eq_true rfl), (Nat.le_of_ble_eq_true rfl)⟩ ⟨Nat.le_refl _, Nat.le_refl _⟩ ?_
  refine pg_if_eq (tgt := 49) h d_Packet_triplet_37 rfl (fun e37 => ?_) (fun e37 => ?_)
  · skip
    refine pg_iload_n h d_Packet_triplet_49 rfl ?_
    refine pg_cS h d_Packet_triplet_50 m_Packet_isOdd l_Packet_34 (c_Packet_isOdd w ok S _) rfl rfl (Nat.le_of_ble_eq_true rfl) ⟨(Nat.le_of_ble_eq_true rfl), (Nat.le_of_ble_eq_true rfl)⟩ ⟨Nat.le_refl _, Nat.le_refl _⟩ ?_
    refine pg_if_ne (tgt := 62) h d_Packet_triplet_53 rfl (fun e53 => ?_) (fun e53 => ?_)
    · skip
      refine pg_aload_n h d_Packet_triplet_62 rfl ?_
      refine pf_get h ok d_Packet_triplet_63 f_Packet_15 (by first | rfl | assumption) rfl rfl ?_
      refine pg_iconst (v := 3) h d_Packet_triplet_66 (by decide) ?_
      refine pg_dup2 h d_Packet_triplet_67 rfl rfl ?_
      refine pf_ild h ok d_Packet_triplet_68 (by first | rfl | assumption) rfl (pg_ixN (j := 3) rfl (by decide) (by decide)) ?_
      refine pg_iconst (v := 1) h d_Packet_triplet_69 (by decide) ?_
      refine pg_iadd h d_Packet_triplet_70 ?_
      refine pf_ist h ok d_Packet_triplet_71 (by first | rfl | assumption) (fun _ => rfl) (pg_ixN (j := 3) rfl (by decide) (by decide)) ?_
      refine pg_iconst (v := (-1)) h d_Packet_triplet_72 (by decide) ?_
      exact pf_iret h d_Packet_triplet_73 rfl (by first | contradiction | (simp only [plF, tripV]; simp [*])) (by first | contradiction | (simp only [plF, tripT]; simp [*]))
    refine pg_iload_n h d_Packet_triplet_56 rfl ?_
    refine pg_bipush (v := 24) h d_Packet_triplet_57 (by decide) ?_
    refine pg_icmp_lt (tgt := 74) h d_Packet_triplet_59 rfl (fun e59 => ?_) (fun e59 => ?_)
    · skip
      refine pg_aload_n h d_Packet_triplet_74 rfl ?_
      refine pf_get h ok d_Packet_triplet_75 f_Packet_15 (by first | rfl | assumption) rfl rfl ?_
      refine pg_iconst (v := 2) h d_Packet_triplet_78 (by decide) ?_
      refine pg_dup2 h d_Packet_triplet_79 rfl rfl ?_
      refine pf_ild h ok d_Packet_triplet_80 (by first | rfl | assumption) rfl (pg_ixN (j := 2) rfl (by decide) (by decide)) ?_
      refine pg_iconst (v := 1) h d_Packet_triplet_81 (by decide) ?_
      refine pg_iadd h d_Packet_triplet_82 ?_
      refine pf_ist h ok d_Packet_triplet_83 (by first | rfl | assumption) (fun _ => rfl) (pg_ixN (j := 2) rfl (by decide) (by decide)) ?_
      refine pg_iload_n h d_Packet_triplet_84 rfl ?_
      refine pg_if_ne (tgt := 93) h d_Packet_triplet_85 rfl (fun e85 => ?_) (fun e85 => ?_)
      · skip
        refine pg_iload_n h d_Packet_triplet_93 rfl ?_
        refine pg_istore h d_Packet_triplet_94 (Nat.le_of_ble_eq_true rfl) rfl rfl ?_
        refine pg_iload_n h d_Packet_triplet_96 rfl ?_
        refine pg_iconst (v := 1) h d_Packet_triplet_97 (by decide) ?_
        refine pg_iload h d_Packet_triplet_98 rfl ?_
        refine pg_iconst (v := 1) h d_Packet_triplet_100 (by decide) ?_
        refine pg_isub h d_Packet_triplet_101 ?_
        refine pg_ishl h d_Packet_triplet_102 ?_
        refine pg_ixor h d_Packet_triplet_103 ?_
        refine pg_cS h d_Packet_triplet_104 m_Packet_bitsOf l_Packet_41 (c_Packet_bitsOf w ok _ _) rfl rfl (Nat.le_of_ble_eq_true rfl) ⟨(Nat.le_of_ble_eq_true rfl), (Nat.le_of_ble_eq_true rfl)⟩ ⟨Nat.le_refl _, Nat.le_refl _⟩ ?_
        exact pf_iret h d_Packet_triplet_107 rfl (by first | contradiction | (simp only [plF, tripV]; simp [*])) (by first | contradiction | (simp only [plF, tripT]; simp [*]))
      refine pg_bipush (v := 24) h d_Packet_triplet_88 (by decide) ?_
      refine pg_goto (tgt := 94) h d_Packet_triplet_90 rfl ?_
      refine pg_istore h d_Packet_triplet_94 (Nat.le_of_ble_eq_true rfl) rfl rfl ?_
      refine pg_iload_n h d_Packet_triplet_96 rfl ?_
      refine pg_iconst (v := 1) h d_Packet_triplet_97 (by decide) ?_
      refine pg_iload h d_Packet_triplet_98 rfl ?_
      refine pg_iconst (v := 1) h d_Packet_triplet_100 (by decide) ?_
      refine pg_isub h d_Packet_triplet_101 ?_
      refine pg_ishl h d_Packet_triplet_102 ?_
      refine pg_ixor h d_Packet_triplet_103 ?_
      refine pg_cS h d_Packet_triplet_104 m_Packet_bitsOf l_Packet_41 (c_Packet_bitsOf w ok _ _) rfl rfl (Nat.le_of_ble_eq_true rfl) ⟨(Nat.le_of_ble_eq_true rfl), (Nat.le_of_ble_eq_true rfl)⟩ ⟨Nat.le_refl _, Nat.le_refl _⟩ ?_
      exact pf_iret h d_Packet_triplet_107 rfl (by first | contradiction | (simp only [plF, tripV]; simp [*])) (by first | contradiction | (simp only [plF, tripT]; simp [*]))
    refine pg_aload_n h d_Packet_triplet_62 rfl ?_
    refine pf_get h ok d_Packet_triplet_63 f_Packet_15 (by first | rfl | assumption) rfl rfl ?_
    refine pg_iconst (v := 3) h d_Packet_triplet_66 (by decide) ?_
    refine pg_dup2 h d_Packet_triplet_67 rfl rfl ?_
    refine pf_ild h ok d_Packet_triplet_68 (by first | rfl | assumption) rfl (pg_ixN (j := 3) rfl (by decide) (by decide)) ?_
    refine pg_iconst (v := 1) h d_Packet_triplet_69 (by decide) ?_
    refine pg_iadd h d_Packet_triplet_70 ?_
    refine pf_ist h ok d_Packet_triplet_71 (by first | rfl | assumption) (fun _ => rfl) (pg_ixN (j := 3) rfl (by decide) (by decide)) ?_
    refine pg_iconst (v := (-1)) h d_Packet_triplet_72 (by decide) ?_
    exact pf_iret h d_Packet_triplet_73 rfl (by first | contradiction | (simp only [plF, tripV]; simp [*])) (by first | contradiction | (simp only [plF, tripT]; simp [*]))
  refine pg_iload_n h d_Packet_triplet_40 rfl ?_
  refine pg_if_ne (tgt := 49) h d_Packet_triplet_41 rfl (fun e41 => ?_) (fun e41 => ?_)
  · skip
    refine pg_iload_n h d_Packet_triplet_49 rfl ?_
    refine pg_cS h d_Packet_triplet_50 m_Packet_isOdd l_Packet_34 (c_Packet_isOdd w ok S _) rfl rfl (Nat.le_of_ble_eq_true rfl) ⟨(Nat.le_of_ble_eq_true rfl), (Nat.le_of_ble_eq_true rfl)⟩ ⟨Nat.le_refl _, Nat.le_refl _⟩ ?_
    refine pg_if_ne (tgt := 62) h d_Packet_triplet_53 rfl (fun e53 => ?_) (fun e53 => ?_)
    · skip
      refine pg_aload_n h d_Packet_triplet_62 rfl ?_
      refine pf_get h ok d_Packet_triplet_63 f_Packet_15 (by first | rfl | assumption) rfl rfl ?_
      refine pg_iconst (v := 3) h d_Packet_triplet_66 (by decide) ?_
      refine pg_dup2 h d_Packet_triplet_67 rfl rfl ?_
      refine pf_ild h ok d_Packet_triplet_68 (by first | rfl | assumption) rfl (pg_ixN (j := 3) rfl (by decide) (by decide)) ?_
      refine pg_iconst (v := 1) h d_Packet_triplet_69 (by decide) ?_
      refine pg_iadd h d_Packet_triplet_70 ?_
      refine pf_ist h ok d_Packet_triplet_71 (by first | rfl | assumption) (fun _ => rfl) (pg_ixN (j := 3) rfl (by decide) (by decide)) ?_
      refine pg_iconst (v := (-1)) h d_Packet_triplet_72 (by decide) ?_
      exact pf_iret h d_Packet_triplet_73 rfl (by first | contradiction | (simp only [plF, tripV]; simp [*])) (by first | contradiction | (simp only [plF, tripT]; simp [*]))
    refine pg_iload_n h d_Packet_triplet_56 rfl ?_
    refine pg_bipush (v := 24) h d_Packet_triplet_57 (by decide) ?_
    refine pg_icmp_lt (tgt := 74) h d_Packet_triplet_59 rfl (fun e59 => ?_) (fun e59 => ?_)
    · skip
      refine pg_aload_n h d_Packet_triplet_74 rfl ?_
      refine pf_get h ok d_Packet_triplet_75 f_Packet_15 (by first | rfl | assumption) rfl rfl ?_
      refine pg_iconst (v := 2) h d_Packet_triplet_78 (by decide) ?_
      refine pg_dup2 h d_Packet_triplet_79 rfl rfl ?_
      refine pf_ild h ok d_Packet_triplet_80 (by first | rfl | assumption) rfl (pg_ixN (j := 2) rfl (by decide) (by decide)) ?_
      refine pg_iconst (v := 1) h d_Packet_triplet_81 (by decide) ?_
      refine pg_iadd h d_Packet_triplet_82 ?_
      refine pf_ist h ok d_Packet_triplet_83 (by first | rfl | assumption) (fun _ => rfl) (pg_ixN (j := 2) rfl (by decide) (by decide)) ?_
      refine pg_iload_n h d_Packet_triplet_84 rfl ?_
      refine pg_if_ne (tgt := 93) h d_Packet_triplet_85 rfl (fun e85 => ?_) (fun e85 => ?_)
      · skip
        refine pg_iload_n h d_Packet_triplet_93 rfl ?_
        refine pg_istore h d_Packet_triplet_94 (Nat.le_of_ble_eq_true rfl) rfl rfl ?_
        refine pg_iload_n h d_Packet_triplet_96 rfl ?_
        refine pg_iconst (v := 1) h d_Packet_triplet_97 (by decide) ?_
        refine pg_iload h d_Packet_triplet_98 rfl ?_
        refine pg_iconst (v := 1) h d_Packet_triplet_100 (by decide) ?_
        refine pg_isub h d_Packet_triplet_101 ?_
        refine pg_ishl h d_Packet_triplet_102 ?_
        refine pg_ixor h d_Packet_triplet_103 ?_
        refine pg_cS h d_Packet_triplet_104 m_Packet_bitsOf l_Packet_41 (c_Packet_bitsOf w ok _ _) rfl rfl (Nat.le_of_ble_eq_true rfl) ⟨(Nat.le_of_ble_eq_true rfl), (Nat.le_of_ble_eq_true rfl)⟩ ⟨Nat.le_refl _, Nat.le_refl _⟩ ?_
        exact pf_iret h d_Packet_triplet_107 rfl (by first | contradiction | (simp only [plF, tripV]; simp [*])) (by first | contradiction | (simp only [plF, tripT]; simp [*]))
      refine pg_bipush (v := 24) h d_Packet_triplet_88 (by decide) ?_
      refine pg_goto (tgt := 94) h d_Packet_triplet_90 rfl ?_
      refine pg_istore h d_Packet_triplet_94 (Nat.le_of_ble_eq_true rfl) rfl rfl ?_
      refine pg_iload_n h d_Packet_triplet_96 rfl ?_
      refine pg_iconst (v := 1) h d_Packet_triplet_97 (by decide) ?_
      refine pg_iload h d_Packet_triplet_98 rfl ?_
      refine pg_iconst (v := 1) h d_Packet_triplet_100 (by decide) ?_
      refine pg_isub h d_Packet_triplet_101 ?_
      refine pg_ishl h d_Packet_triplet_102 ?_
      refine pg_ixor h d_Packet_triplet_103 ?_
      refine pg_cS h d_Packet_triplet_104 m_Packet_bitsOf l_Packet_41 (c_Packet_bitsOf w ok _ _) rfl rfl (Nat.le_of_ble_eq_true rfl) ⟨(Nat.le_of_ble_eq_true rfl), (Nat.le_of_ble_eq_true rfl)⟩ ⟨Nat.le_refl _, Nat.le_refl _⟩ ?_
      exact pf_iret h d_Packet_triplet_107 rfl (by first | contradiction | (simp only [plF, tripV]; simp [*])) (by first | contradiction | (simp only [plF, tripT]; simp [*]))
    refine pg_aload_n h d_Packet_triplet_62 rfl ?_
    refine pf_get h ok d_Packet_triplet_63 f_Packet_15 (by first | rfl | assumption) rfl rfl ?_
    refine pg_iconst (v := 3) h d_Packet_triplet_66 (by decide) ?_
    refine pg_dup2 h d_Packet_triplet_67 rfl rfl ?_
    refine pf_ild h ok d_Packet_triplet_68 (by first | rfl | assumption) rfl (pg_ixN (j := 3) rfl (by decide) (by decide)) ?_
    refine pg_iconst (v := 1) h d_Packet_triplet_69 (by decide) ?_
    refine pg_iadd h d_Packet_triplet_70 ?_
    refine pf_ist h ok d_Packet_triplet_71 (by first | rfl | assumption) (fun _ => rfl) (pg_ixN (j := 3) rfl (by decide) (by decide)) ?_
    refine pg_iconst (v := (-1)) h d_Packet_triplet_72 (by decide) ?_
    exact pf_iret h d_Packet_triplet_73 rfl (by first | contradiction | (simp only [plF, tripV]; simp [*])) (by first | contradiction | (simp only [plF, tripT]; simp [*]))
  refine pg_iload_n h d_Packet_triplet_44 rfl ?_
  refine pg_cS h d_Packet_triplet_45 m_Packet_bitsOf l_Packet_41 (c_Packet_bitsOf w ok _ _) rfl rfl (Nat.le_of_ble_eq_true rfl) ⟨(Nat.le_of_ble_eq_true rfl), (Nat.le_of_ble_eq_true rfl)⟩ ⟨Nat.le_refl _, Nat.le_refl _⟩ ?_
  exact pf_iret h d_Packet_triplet_48 rfl (by first | contradiction | (simp only [plF, tripV]; simp [*])) (by first | contradiction | (simp only [plF, tripT]; simp [*]))

theorem pf_rw_rw (S : pf_S) (kd ix : Nat) (f g : Nat → Int32) : pf_rw (pf_rw S kd ix f) kd ix g = pf_rw S kd ix g := by
  funext a b
  by_cases h : a = kd ∧ b = ix
  · obtain ⟨rfl, rfl⟩ := h
    rw [pf_rw_at, pf_rw_at]
  · rw [pf_rw_ne _ _ h, pf_rw_ne _ _ h, pf_rw_ne _ _ h]
theorem pf_rw_self (S : pf_S) (kd ix : Nat) : pf_rw S kd ix (S kd ix) = S := by
  funext a b
  by_cases h : a = kd ∧ b = ix
  · obtain ⟨rfl, rfl⟩ := h
    rw [pf_rw_at]
  · rw [pf_rw_ne _ _ h]
/-- the first j places hold v -/
def filTo (f : Nat → Int32) (v : Int32) (j : Nat) : Nat → Int32 := fun q => if q < j then v else f q
theorem filTo_0 (f : Nat → Int32) (v : Int32) : filTo f v 0 = f := by
  funext q
  simp [filTo]
theorem filTo_s (f : Nat → Int32) (v : Int32) (j : Nat) : upd (filTo f v j) j v = filTo f v (j + 1) := by
  funext q
  by_cases h : q = j
  · subst h
    simp [upd, filTo]
  · by_cases h2 : q < j
    · have h3 : q < j + 1 := by omega
      simp [upd, filTo, h, h2, h3]
    · have h3 : ¬ q < j + 1 := by omega
      simp [upd, filTo, h, h2, h3]

set_option maxRecDepth 100000 in
set_option maxHeartbeats 4000000 in
theorem c_JArr_fill (w : pf_W) (ok : pf_ok w) (S : pf_S) (kd ix n : Nat) (v : Int32) (hd : pf_dm w.2.2.1 kd ix = true) (he : ∀ g : Nat → Int32, pf_E w g kd ix = .inl (w.1.2.2 0, n, .inl g)) (hn : n < 2 ^ 31) : pf_C w y_JArr_fill b_JArr_fill 4 none 0 0 [.ref (w.2.1 kd ix), .int v] S (none) (pf_rw S kd ix (filTo (S kd ix) v n)) := by
  refine pf_enter (by decide) (Nat.le_of_ble_eq_true rfl) (lv0 := [some (.ref (w.2.1 kd ix)), some (.int v), none, none]) rfl (fun κ h => ?_)
  have loop : ∀ (q j : Nat), j + q = n → pg_G κ w.1 4 0 0 (pg_Q κ w.1 (fun r' H => r' = none ∧ pf_P w (pf_rw S kd ix (filTo (S kd ix) v n)) H) 0 0) (pf_P w (pf_rw S kd ix (filTo (S kd ix) v j))) 5 [some (.ref (w.2.1 kd ix)), some (.int v), some (.int (nI j)), some (.int (nI n))] [] := by
    intro q
    induction q with
    | zero =>
      intro j hj
      have hj : j = n := by omega
      subst hj
      refine pg_iload_n h d_JArr_fill_5 rfl ?_
      refine pg_iload_n h d_JArr_fill_6 rfl ?_
      refine pg_icmp_ge (tgt := 20) h d_JArr_fill_7 rfl (fun e7 => ?_) (fun e7 => absurd e7 (fun e => e (Int32.le_refl _)))
      exact pf_vret h d_JArr_fill_20 rfl
    | succ q ih =>
      intro j hj
      refine pg_iload_n h d_JArr_fill_5 rfl ?_
      refine pg_iload_n h d_JArr_fill_6 rfl ?_
      refine pg_icmp_ge (tgt := 20) h d_JArr_fill_7 rfl (fun e7 => absurd e7 (nI_ge (show j < n by omega) hn)) (fun e7 => ?_)
      refine pg_aload_n h d_JArr_fill_10 rfl ?_
      refine pg_iload_n h d_JArr_fill_11 rfl ?_
      refine pg_iload_n h d_JArr_fill_12 rfl ?_
      refine pf_ist h ok d_JArr_fill_13 hd he (pg_ixN rfl (show j < n by omega) hn) ?_
      refine pg_iinc (w := 1) h d_JArr_fill_14 rfl (by decide) (Nat.le_of_ble_eq_true rfl) rfl rfl ?_
      refine pg_goto (tgt := 5) h d_JArr_fill_17 rfl ?_
      rw [← nI_succ j, pf_st_rw, pf_rw_at, pf_rw_rw, filTo_s]
      exact ih (j + 1) (by omega)
  refine pg_iconst (v := 0) h d_JArr_fill_0 (by decide) ?_
  refine pg_istore_n h d_JArr_fill_1 (Nat.le_of_ble_eq_true rfl) rfl rfl ?_
  refine pg_aload_n h d_JArr_fill_2 rfl ?_
  refine pf_len (t0 := 0) (v := nI n) h ok d_JArr_fill_3 hd (he _) rfl rfl ?_
  refine pg_istore_n h d_JArr_fill_4 (Nat.le_of_ble_eq_true rfl) rfl rfl ?_
  have q := loop n 0 (by omega)
  rw [filTo_0, pf_rw_self] at q
  exact q
end
section
/-! System.arraycopy over the flat memory; the methods of Page; Shelf.pageIn and Shelf.find. -/
section PGCOPY
variable {κ : pg_K} {z : pg_Z} {y : MethodName} {cc : ByteArray} {nL : Nat} {ret : Option FieldType} {rm : Room} {ce sl : Nat} {Q : State → Prop} {pc : Nat} {lv : List (Option Value)} {st : List Value} {L : List Nat} {M : Nat → va_E}
set_option maxRecDepth 100000 in
theorem pg_copy1 {a b n idx : Nat} {f g : Nat → Int32} (h : pg_X κ z y cc nL ret rm) (d : decode cc pc = .ok (.invokestatic idx, 3)) (hlk : Cond.methodLink y.cls idx arraycopyName ∈ pg_ws) (ha : a ∈ L) (hMa : M a = .inl (z.2.2 0, n, .inl f)) (hb : b ∈ L) (hMb : M b = .inl (z.2.2 0, n, .inl g)) (hn : n < 2 ^ 31)
    (hroom : 1 ≤ rm.frames ∧ (st.map fun v => v.category).sum + (nativeFrameWords "java/lang/System" "arraycopy" 5 + 11) ≤ rm.locals)
    (kk : pg_G κ z nL ce sl Q (pg_P z L (va_up M b (.inl (z.2.2 0, n, .inl (va_cpy f g 0 0 n))))) (pc + 3) lv st) : pg_G κ z nL ce sl Q (pg_P z L M) pc lv (.int (nI n) :: .int 0 :: .ref b :: .int 0 :: .ref a :: st) := fun H locs ls hP hS hl => by
  obtain ⟨q0, hq0⟩ := va_pl_get (X := []) (f := M) ha
  rw [hMa] at hq0
  obtain ⟨q1, hq1⟩ := va_pl_get (X := []) (f := M) hb
  have hq := hq1
  rw [hMb] at hq
  have hts := h.2.2.2.2.1
  have hset := va_pl_set (X := []) (e := .inl (z.2.2 0, n, .inl (va_cpy f g 0 0 n))) hP.2 hb hq1
  have hcl : (nI n).toNatClampNeg = n := nI_clamp hn
  refine va_copyi (ws := [] ++ va_pl L M) h.1 h.2.1 (h.2.2.1.trans hl.1.symm) h.2.2.2.1 (hts _ hlk) (hts _ (pg_tb 344 rfl rfl)) (hts _ (pg_tb 343 rfl rfl)) (hts _ (pg_tb 13 rfl rfl)) h.2.2.2.2.2.1.1 hP.1 hP.2 hS q0 q1 0 0 hq0 hq rfl rfl rfl (by decide) (by decide) (nI_pos hn) (by rw [hcl, sb_cl0]; omega) (by rw [hcl, sb_cl0]; omega) (fun _ _ => rfl) (by rw [h.2.2.2.2.2.2.1]; exact hroom.1) (by rw [h.2.2.2.2.2.2.1]; exact hroom.2) d (fun H1 locs1 hP1 hD1 hS1 => ?_)
  rw [hcl, sb_cl0, hset] at hP1 hD1
  exact kk H1 locs1 ls ⟨hP1, hD1⟩ hS1 hl
end PGCOPY
section PFCOPY
variable {κ : pg_K} {w : pf_W} {y : MethodName} {cc : ByteArray} {nL : Nat} {ret : Option FieldType} {rm : Room} {ce sl : Nat} {Q : State → Prop} {pc : Nat} {lv : List (Option Value)} {st : List Value} {S : pf_S}
theorem pf_cpy {kd ix kd2 ix2 n idx : Nat} (h : pg_X κ w.1 y cc nL ret rm) (ok : pf_ok w) (d : decode cc pc = .ok (.invokestatic idx, 3)) (hlk : Cond.methodLink y.cls idx arraycopyName ∈ pg_ws) (hd : pf_dm w.2.2.1 kd ix = true) (he : pf_E w (S kd ix) kd ix = .inl (w.1.2.2 0, n, .inl (S kd ix))) (hd2 : pf_dm w.2.2.1 kd2 ix2 = true) (he2 : ∀ g : Nat → Int32, pf_E w g kd2 ix2 = .inl (w.1.2.2 0, n, .inl g)) (hn : n < 2 ^ 31)
    (hroom : 1 ≤ rm.frames ∧ (st.map fun v => v.category).sum + (nativeFrameWords "java/lang/System" "arraycopy" 5 + 11) ≤ rm.locals)
    (kk : pg_G κ w.1 nL ce sl Q (pf_P w (pf_rw S kd2 ix2 (va_cpy (S kd ix) (S kd2 ix2) 0 0 n))) (pc + 3) lv st) : pg_G κ w.1 nL ce sl Q (pf_P w S) pc lv (.int (nI n) :: .int 0 :: .ref (w.2.1 kd2 ix2) :: .int 0 :: .ref (w.2.1 kd ix) :: st) :=
  pf_in (fun M hM => pg_copy1 h d hlk (ok kd ix hd).1 ((hM kd ix hd).trans he) (ok kd2 ix2 hd2).1 ((hM kd2 ix2 hd2).trans (he2 _)) hn hroom (pf_out (hM.up ok hd2 (he2 _)) kk))
end PFCOPY
theorem sw_out {x : Int32} (n : Nat) (hn : n < 2 ^ 31) (h : ∀ j : Nat, j ≤ n → ¬ x = nI j) : x.toInt < 0 ∨ (n : Int) < x.toInt := by
  by_cases h0 : x < 0
  · left
    have := Int32.lt_iff_toInt_lt.mp h0
    simpa using this
  · right
    obtain ⟨j, hj, rfl⟩ := nI_of h0
    rw [nI_toInt hj]
    rcases Nat.lt_or_ge n j with q | q
    · omega
    · exact absurd rfl (h j q)

theorem c_isCell1 (w : pf_W) (ok : pf_ok w) (S : pf_S) (r c : Nat) (hr : r < 8) (hc : c < 20) : pf_C w y_Recv_isCell b_Recv_isCell 2 (some .boolean) 0 0 [.int (nI r), .int (nI c)] S (some (.int 1)) S := by
  have q := c_Recv_isCell w ok S (nI r) (nI c)
  rw [if_pos ⟨nI_pos (by omega), nI_ge hr (by decide), nI_pos (by omega), nI_ge hc (by decide)⟩] at q
  exact q
theorem ix20 {r c : Nat} (hr : r < 8) (hc : c < 20) : pg_ix (nI r * 20 + nI c) 160 (r * 20 + c) := pg_ixN (by rw [show nI r * 20 = nI (r * 20) from pk_mul r 20, nI_add]) (by omega) (by decide)

set_option maxRecDepth 100000 in
set_option maxHeartbeats 4000000 in
theorem c_Page_letterAt (w : pf_W) (ok : pf_ok w) (S : pf_S) (k : Nat) (hk : pf_dm w.2.2.1 14 k = true) (r c : Nat) (hr : r < 8) (hc : c < 20) : pf_C w y_Page_letterAt b_Page_letterAt 3 (some .int) 1 21 [.ref (w.2.1 14 k), .int (nI r), .int (nI c)] S (some (.int (S 15 k (r * 20 + c)))) (S) := by
  refine pf_enter (by decide) (Nat.le_of_ble_eq_true rfl) (lv0 := [some (.ref (w.2.1 14 k)), some (.int (nI r)), some (.int (nI c))]) rfl (fun κ h => ?_)
  refine pg_iload_n h d_Page_letterAt_0 rfl ?_
  refine pg_iload_n h d_Page_letterAt_1 rfl ?_
  refine pg_cS h d_Page_letterAt_2 m_Recv_isCell l_Page_50 (c_isCell1 w ok S r c hr hc) rfl rfl (Nat.le_of_ble_eq_true rfl) ⟨(Nat.le_of_ble_eq_true rfl), (Nat.le_of_ble_eq_true rfl)⟩ ⟨Nat.le_refl _, Nat.le_refl _⟩ ?_
  refine pg_if_eq (tgt := 22) h d_Page_letterAt_5 rfl (fun e5 => absurd e5 (by decide)) (fun e5 => ?_)
  refine pg_aload_n h d_Page_letterAt_8 rfl ?_
  refine pf_get h ok d_Page_letterAt_9 f_Page_9 (by first | rfl | exact hk | exact hk2 | assumption) rfl rfl ?_
  refine pg_iload_n h d_Page_letterAt_12 rfl ?_
  refine pg_bipush (v := 20) h d_Page_letterAt_13 (by decide) ?_
  refine pg_imul h d_Page_letterAt_15 ?_
  refine pg_iload_n h d_Page_letterAt_16 rfl ?_
  refine pg_iadd h d_Page_letterAt_17 ?_
  refine pf_ild h ok d_Page_letterAt_18 (by first | rfl | exact hk | exact hk2 | assumption) rfl (ix20 hr hc) ?_
  refine pg_goto (tgt := 24) h d_Page_letterAt_19 rfl ?_
  exact pf_iret h d_Page_letterAt_24 rfl (by first | rfl | simp [*]) rfl

set_option maxRecDepth 100000 in
set_option maxHeartbeats 4000000 in
theorem c_Page_overlayAt (w : pf_W) (ok : pf_ok w) (S : pf_S) (k : Nat) (hk : pf_dm w.2.2.1 14 k = true) (r c : Nat) (hr : r < 8) (hc : c < 20) : pf_C w y_Page_overlayAt b_Page_overlayAt 3 (some .int) 1 21 [.ref (w.2.1 14 k), .int (nI r), .int (nI c)] S (some (.int (S 16 k (r * 20 + c)))) (S) := by
  refine pf_enter (by decide) (Nat.le_of_ble_eq_true rfl) (lv0 := [some (.ref (w.2.1 14 k)), some (.int (nI r)), some (.int (nI c))]) rfl (fun κ h => ?_)
  refine pg_iload_n h d_Page_overlayAt_0 rfl ?_
  refine pg_iload_n h d_Page_overlayAt_1 rfl ?_
  refine pg_cS h d_Page_overlayAt_2 m_Recv_isCell l_Page_50 (c_isCell1 w ok S r c hr hc) rfl rfl (Nat.le_of_ble_eq_true rfl) ⟨(Nat.le_of_ble_eq_true rfl), (Nat.le_of_ble_eq_true rfl)⟩ ⟨Nat.le_refl _, Nat.le_refl _⟩ ?_
  refine pg_if_eq (tgt := 22) h d_Page_overlayAt_5 rfl (fun e5 => absurd e5 (by decide)) (fun e5 => ?_)
  refine pg_aload_n h d_Page_overlayAt_8 rfl ?_
  refine pf_get h ok d_Page_overlayAt_9 f_Page_15 (by first | rfl | exact hk | exact hk2 | assumption) rfl rfl ?_
  refine pg_iload_n h d_Page_overlayAt_12 rfl ?_
  refine pg_bipush (v := 20) h d_Page_overlayAt_13 (by decide) ?_
  refine pg_imul h d_Page_overlayAt_15 ?_
  refine pg_iload_n h d_Page_overlayAt_16 rfl ?_
  refine pg_iadd h d_Page_overlayAt_17 ?_
  refine pf_ild h ok d_Page_overlayAt_18 (by first | rfl | exact hk | exact hk2 | assumption) rfl (ix20 hr hc) ?_
  refine pg_goto (tgt := 23) h d_Page_overlayAt_19 rfl ?_
  exact pf_iret h d_Page_overlayAt_23 rfl (by first | rfl | simp [*]) rfl

set_option maxRecDepth 100000 in
set_option maxHeartbeats 4000000 in
theorem c_Page_setLetter (w : pf_W) (ok : pf_ok w) (S : pf_S) (k : Nat) (hk : pf_dm w.2.2.1 14 k = true) (r c : Nat) (hr : r < 8) (hc : c < 20) (v : Int32) : pf_C w y_Page_setLetter b_Page_setLetter 4 none 1 21 [.ref (w.2.1 14 k), .int (nI r), .int (nI c), .int v] S (none) (pf_st S 15 k (r * 20 + c) v) := by
  refine pf_enter (by decide) (Nat.le_of_ble_eq_true rfl) (lv0 := [some (.ref (w.2.1 14 k)), some (.int (nI r)), some (.int (nI c)), some (.int v)]) rfl (fun κ h => ?_)
  refine pg_iload_n h d_Page_setLetter_0 rfl ?_
  refine pg_iload_n h d_Page_setLetter_1 rfl ?_
  refine pg_cS h d_Page_setLetter_2 m_Recv_isCell l_Page_50 (c_isCell1 w ok S r c hr hc) rfl rfl (Nat.le_of_ble_eq_true rfl) ⟨(Nat.le_of_ble_eq_true rfl), (Nat.le_of_ble_eq_true rfl)⟩ ⟨Nat.le_refl _, Nat.le_refl _⟩ ?_
  refine pg_if_eq (tgt := 20) h d_Page_setLetter_5 rfl (fun e5 => absurd e5 (by decide)) (fun e5 => ?_)
  refine pg_aload_n h d_Page_setLetter_8 rfl ?_
  refine pf_get h ok d_Page_setLetter_9 f_Page_9 (by first | rfl | exact hk | exact hk2 | assumption) rfl rfl ?_
  refine pg_iload_n h d_Page_setLetter_12 rfl ?_
  refine pg_bipush (v := 20) h d_Page_setLetter_13 (by decide) ?_
  refine pg_imul h d_Page_setLetter_15 ?_
  refine pg_iload_n h d_Page_setLetter_16 rfl ?_
  refine pg_iadd h d_Page_setLetter_17 ?_
  refine pg_iload_n h d_Page_setLetter_18 rfl ?_
  refine pf_ist h ok d_Page_setLetter_19 (by first | rfl | exact hk | exact hk2 | assumption) (fun _ => rfl) (ix20 hr hc) ?_
  exact pf_vret h d_Page_setLetter_20 rfl

set_option maxRecDepth 100000 in
set_option maxHeartbeats 4000000 in
theorem c_Page_setOverlay (w : pf_W) (ok : pf_ok w) (S : pf_S) (k : Nat) (hk : pf_dm w.2.2.1 14 k = true) (r c : Nat) (hr : r < 8) (hc : c < 20) (v : Int32) : pf_C w y_Page_setOverlay b_Page_setOverlay 4 none 1 21 [.ref (w.2.1 14 k), .int (nI r), .int (nI c), .int v] S (none) (pf_st S 16 k (r * 20 + c) v) := by
  refine pf_enter (by decide) (Nat.le_of_ble_eq_true rfl) (lv0 := [some (.ref (w.2.1 14 k)), some (.int (nI r)), some (.int (nI c)), some (.int v)]) rfl (fun κ h => ?_)
  refine pg_iload_n h d_Page_setOverlay_0 rfl ?_
  refine pg_iload_n h d_Page_setOverlay_1 rfl ?_
  refine pg_cS h d_Page_setOverlay_2 m_Recv_isCell l_Page_50 (c_isCell1 w ok S r c hr hc) rfl rfl (Nat.le_of_ble_eq_true rfl) ⟨(Nat.le_of_ble_eq_true rfl), (Nat.le_of_ble_eq_true rfl)⟩ ⟨Nat.le_refl _, Nat.le_refl _⟩ ?_
  refine pg_if_eq (tgt := 20) h d_Page_setOverlay_5 rfl (fun e5 => absurd e5 (by decide)) (fun e5 => ?_)
  refine pg_aload_n h d_Page_setOverlay_8 rfl ?_
  refine pf_get h ok d_Page_setOverlay_9 f_Page_15 (by first | rfl | exact hk | exact hk2 | assumption) rfl rfl ?_
  refine pg_iload_n h d_Page_setOverlay_12 rfl ?_
  refine pg_bipush (v := 20) h d_Page_setOverlay_13 (by decide) ?_
  refine pg_imul h d_Page_setOverlay_15 ?_
  refine pg_iload_n h d_Page_setOverlay_16 rfl ?_
  refine pg_iadd h d_Page_setOverlay_17 ?_
  refine pg_iload_n h d_Page_setOverlay_18 rfl ?_
  refine pf_ist h ok d_Page_setOverlay_19 (by first | rfl | exact hk | exact hk2 | assumption) (fun _ => rfl) (ix20 hr hc) ?_
  exact pf_vret h d_Page_setOverlay_20 rfl

set_option maxRecDepth 100000 in
set_option maxHeartbeats 4000000 in
theorem c_Page_link (w : pf_W) (ok : pf_ok w) (S : pf_S) (k : Nat) (hk : pf_dm w.2.2.1 14 k = true) (j : Nat) (hj : j < 4) : pf_C w y_Page_link b_Page_link 2 (some .int) 0 0 [.ref (w.2.1 14 k), .int (nI j)] S (some (.int (S 17 k j))) (S) := by
  refine pf_enter (by decide) (Nat.le_of_ble_eq_true rfl) (lv0 := [some (.ref (w.2.1 14 k)), some (.int (nI j))]) rfl (fun κ h => ?_)
  refine pg_iload_n h d_Page_link_0 rfl ?_
  refine pg_if_lt (tgt := 9) h d_Page_link_1 rfl (fun e1 => absurd e1 (nI_pos (by omega))) (fun e1 => ?_)
  refine pg_iload_n h d_Page_link_4 rfl ?_
  refine pg_iconst (v := 4) h d_Page_link_5 (by decide) ?_
  refine pg_icmp_lt (tgt := 13) h d_Page_link_6 rfl (fun e6 => ?_) (fun e6 => absurd e6 (fun e => e (nI_lt hj (by decide))))
  refine pg_aload_n h d_Page_link_13 rfl ?_
  refine pf_get h ok d_Page_link_14 f_Page_18 (by first | rfl | exact hk | exact hk2 | assumption) rfl rfl ?_
  refine pg_iload_n h d_Page_link_17 rfl ?_
  refine pf_ild h ok d_Page_link_18 (by first | rfl | exact hk | exact hk2 | assumption) rfl (pg_ixN rfl hj (by decide)) ?_
  exact pf_iret h d_Page_link_19 rfl (by first | rfl | simp [*]) rfl

def tellV (S : pf_S) (k : Nat) (x : Int32) : Int32 := if x = 0 then S 14 k 1 else if x = 1 then S 14 k 2 else if x = 2 then S 14 k 3 else if x = 3 then S 14 k 4 else if x = 4 then S 17 k 0 else if x = 5 then S 17 k 1 else if x = 6 then S 17 k 2 else if x = 7 then S 17 k 3 else -1

set_option maxRecDepth 100000 in
set_option maxHeartbeats 4000000 in
theorem c_Page_tell (w : pf_W) (ok : pf_ok w) (S : pf_S) (k : Nat) (hk : pf_dm w.2.2.1 14 k = true) (x : Int32) : pf_C w y_Page_tell b_Page_tell 2 (some .int) 1 21 [.ref (w.2.1 14 k), .int x] S (some (.int (tellV S k x))) (S) := by
  refine pf_enter (by decide) (Nat.le_of_ble_eq_true rfl) (lv0 := [some (.ref (w.2.1 14 k)), some (.int x)]) rfl (fun κ h => ?_)
  refine pg_iload_n h d_Page_tell_0 rfl ?_
  by_cases c1_0 : x = 0
  · refine pg_tableIn (off := 47) (tgt := 48) h d_Page_tell_1 (by rw [c1_0]; decide) (by rw [c1_0]; decide) (by rw [c1_0]; rfl) rfl ?_
    refine pg_aload_n h d_Page_tell_48 rfl ?_
    refine pf_get h ok d_Page_tell_49 f_Page_25 (by first | rfl | exact hk | exact hk2 | assumption) rfl rfl ?_
    exact pf_iret h d_Page_tell_52 rfl (by simp [tellV, *]) rfl
  by_cases c1_1 : x = 1
  · refine pg_tableIn (off := 52) (tgt := 53) h d_Page_tell_1 (by rw [c1_1]; decide) (by rw [c1_1]; decide) (by rw [c1_1]; rfl) rfl ?_
    refine pg_aload_n h d_Page_tell_53 rfl ?_
    refine pf_get h ok d_Page_tell_54 f_Page_35 (by first | rfl | exact hk | exact hk2 | assumption) rfl rfl ?_
    exact pf_iret h d_Page_tell_57 rfl (by simp [tellV, *]) rfl
  by_cases c1_2 : x = 2
  · refine pg_tableIn (off := 57) (tgt := 58) h d_Page_tell_1 (by rw [c1_2]; decide) (by rw [c1_2]; decide) (by rw [c1_2]; rfl) rfl ?_
    refine pg_aload_n h d_Page_tell_58 rfl ?_
    refine pf_get h ok d_Page_tell_59 f_Page_38 (by first | rfl | exact hk | exact hk2 | assumption) rfl rfl ?_
    exact pf_iret h d_Page_tell_62 rfl (by simp [tellV, *]) rfl
  by_cases c1_3 : x = 3
  · refine pg_tableIn (off := 62) (tgt := 63) h d_Page_tell_1 (by rw [c1_3]; decide) (by rw [c1_3]; decide) (by rw [c1_3]; rfl) rfl ?_
    refine pg_aload_n h d_Page_tell_63 rfl ?_
    refine pf_get h ok d_Page_tell_64 f_Page_41 (by first | rfl | exact hk | exact hk2 | assumption) rfl rfl ?_
    exact pf_iret h d_Page_tell_67 rfl (by simp [tellV, *]) rfl
  by_cases c1_4 : x = 4
  · refine pg_tableIn (off := 67) (tgt := 68) h d_Page_tell_1 (by rw [c1_4]; decide) (by rw [c1_4]; decide) (by rw [c1_4]; rfl) rfl ?_
    refine pg_aload_n h d_Page_tell_68 rfl ?_
    refine pg_iload_n h d_Page_tell_69 rfl ?_
    refine pg_iconst (v := 4) h d_Page_tell_70 (by decide) ?_
    refine pg_isub h d_Page_tell_71 ?_
    rw [show x - 4 = nI 0 from by rw [c1_4]; decide]
    refine pf_cV h ok d_Page_tell_72 m_Page_link l_Page_54 (c_Page_link w ok S k hk 0 (by decide)) cn_Page (by first | rfl | exact hk | exact hk2 | assumption) rfl rfl rfl (Nat.le_of_ble_eq_true rfl) ⟨(Nat.le_of_ble_eq_true rfl), (Nat.le_of_ble_eq_true rfl)⟩ ⟨Nat.le_refl _, Nat.le_refl _⟩ ?_
    exact pf_iret h d_Page_tell_75 rfl (by simp [tellV, *]) rfl
  by_cases c1_5 : x = 5
  · refine pg_tableIn (off := 67) (tgt := 68) h d_Page_tell_1 (by rw [c1_5]; decide) (by rw [c1_5]; decide) (by rw [c1_5]; rfl) rfl ?_
    refine pg_aload_n h d_Page_tell_68 rfl ?_
    refine pg_iload_n h d_Page_tell_69 rfl ?_
    refine pg_iconst (v := 4) h d_Page_tell_70 (by decide) ?_
    refine pg_isub h d_Page_tell_71 ?_
    rw [show x - 4 = nI 1 from by rw [c1_5]; decide]
    refine pf_cV h ok d_Page_tell_72 m_Page_link l_Page_54 (c_Page_link w ok S k hk 1 (by decide)) cn_Page (by first | rfl | exact hk | exact hk2 | assumption) rfl rfl rfl (Nat.le_of_ble_eq_true rfl) ⟨(Nat.le_of_ble_eq_true rfl), (Nat.le_of_ble_eq_true rfl)⟩ ⟨Nat.le_refl _, Nat.le_refl _⟩ ?_
    exact pf_iret h d_Page_tell_75 rfl (by simp [tellV, *]) rfl
  by_cases c1_6 : x = 6
  · refine pg_tableIn (off := 67) (tgt := 68) h d_Page_tell_1 (by rw [c1_6]; decide) (by rw [c1_6]; decide) (by rw [c1_6]; rfl) rfl ?_
    refine pg_aload_n h d_Page_tell_68 rfl ?_
    refine pg_iload_n h d_Page_tell_69 rfl ?_
    refine pg_iconst (v := 4) h d_Page_tell_70 (by decide) ?_
    refine pg_isub h d_Page_tell_71 ?_
    rw [show x - 4 = nI 2 from by rw [c1_6]; decide]
    refine pf_cV h ok d_Page_tell_72 m_Page_link l_Page_54 (c_Page_link w ok S k hk 2 (by decide)) cn_Page (by first | rfl | exact hk | exact hk2 | assumption) rfl rfl rfl (Nat.le_of_ble_eq_true rfl) ⟨(Nat.le_of_ble_eq_true rfl), (Nat.le_of_ble_eq_true rfl)⟩ ⟨Nat.le_refl _, Nat.le_refl _⟩ ?_
    exact pf_iret h d_Page_tell_75 rfl (by simp [tellV, *]) rfl
  by_cases c1_7 : x = 7
  · refine pg_tableIn (off := 67) (tgt := 68) h d_Page_tell_1 (by rw [c1_7]; decide) (by rw [c1_7]; decide) (by rw [c1_7]; rfl) rfl ?_
    refine pg_aload_n h d_Page_tell_68 rfl ?_
    refine pg_iload_n h d_Page_tell_69 rfl ?_
    refine pg_iconst (v := 4) h d_Page_tell_70 (by decide) ?_
    refine pg_isub h d_Page_tell_71 ?_
    rw [show x - 4 = nI 3 from by rw [c1_7]; decide]
    refine pf_cV h ok d_Page_tell_72 m_Page_link l_Page_54 (c_Page_link w ok S k hk 3 (by decide)) cn_Page (by first | rfl | exact hk | exact hk2 | assumption) rfl rfl rfl (Nat.le_of_ble_eq_true rfl) ⟨(Nat.le_of_ble_eq_true rfl), (Nat.le_of_ble_eq_true rfl)⟩ ⟨Nat.le_refl _, Nat.le_refl _⟩ ?_
    exact pf_iret h d_Page_tell_75 rfl (by simp [tellV, *]) rfl
  have o1 : ∀ j : Nat, j ≤ 7 → ¬ x = nI j := by
    intro j hj
    rcases (show j = 0 ∨ j = 1 ∨ j = 2 ∨ j = 3 ∨ j = 4 ∨ j = 5 ∨ j = 6 ∨ j = 7 by omega) with rfl | rfl | rfl | rfl | rfl | rfl | rfl | rfl
    · exact c1_0
    · exact c1_1
    · exact c1_2
    · exact c1_3
    · exact c1_4
    · exact c1_5
    · exact c1_6
    · exact c1_7
  refine pg_tableOut (tgt := 76) h d_Page_tell_1 (sw_out 7 (by decide) o1) rfl ?_
  refine pg_iconst (v := (-1)) h d_Page_tell_76 (by decide) ?_
  exact pf_iret h d_Page_tell_77 rfl (by simp [tellV, *]) rfl

/-- Page.begin -/
def begP (S : pf_S) (k : Nat) (num : Int32) : pf_S := pf_rw (pf_rw (pf_rw (pf_st (pf_st S 14 k 0 1) 14 k 1 num) 15 k (filTo (S 15 k) 32 160)) 16 k (filTo (S 16 k) 0 160)) 17 k (filTo (S 17 k) (-1) 4)

set_option maxRecDepth 100000 in
set_option maxHeartbeats 4000000 in
theorem c_Page_begin (w : pf_W) (ok : pf_ok w) (S : pf_S) (k : Nat) (hk : pf_dm w.2.2.1 14 k = true) (num : Int32) : pf_C w y_Page_begin b_Page_begin 2 none 1 23 [.ref (w.2.1 14 k), .int num] S (none) (begP S k num) := by
  refine pf_enter (by decide) (Nat.le_of_ble_eq_true rfl) (lv0 := [some (.ref (w.2.1 14 k)), some (.int num)]) rfl (fun κ h => ?_)
  refine pg_aload_n h d_Page_begin_0 rfl ?_
  refine pg_iconst (v := 1) h d_Page_begin_1 (by decide) ?_
  refine pf_putz 1 h ok d_Page_begin_2 fw_Page_21 (by first | rfl | exact hk | exact hk2 | assumption) rfl (Nat.le_of_ble_eq_true rfl) rfl ?_
  refine pg_aload_n h d_Page_begin_5 rfl ?_
  refine pg_iload_n h d_Page_begin_6 rfl ?_
  refine pf_puti h ok d_Page_begin_7 fw_Page_25 (by first | rfl | exact hk | exact hk2 | assumption) rfl (Nat.le_of_ble_eq_true rfl) rfl ?_
  refine pg_aload_n h d_Page_begin_10 rfl ?_
  refine pf_get h ok d_Page_begin_11 f_Page_9 (by first | rfl | exact hk | exact hk2 | assumption) rfl rfl ?_
  refine pg_bipush (v := 32) h d_Page_begin_14 (by decide) ?_
  refine pg_cS0 h d_Page_begin_16 m_JArr_fill l_Page_29 (c_JArr_fill w ok _ 15 k 160 32 hk (fun _ => rfl) (by decide)) rfl rfl (Nat.le_of_ble_eq_true rfl) ⟨(Nat.le_of_ble_eq_true rfl), (Nat.le_of_ble_eq_true rfl)⟩ ⟨Nat.le_refl _, Nat.le_refl _⟩ ?_
  refine pg_aload_n h d_Page_begin_19 rfl ?_
  refine pf_get h ok d_Page_begin_20 f_Page_15 (by first | rfl | exact hk | exact hk2 | assumption) rfl rfl ?_
  refine pg_iconst (v := 0) h d_Page_begin_23 (by decide) ?_
  refine pg_cS0 h d_Page_begin_24 m_JArr_fill l_Page_29 (c_JArr_fill w ok _ 16 k 160 0 hk (fun _ => rfl) (by decide)) rfl rfl (Nat.le_of_ble_eq_true rfl) ⟨(Nat.le_of_ble_eq_true rfl), (Nat.le_of_ble_eq_true rfl)⟩ ⟨Nat.le_refl _, Nat.le_refl _⟩ ?_
  refine pg_aload_n h d_Page_begin_27 rfl ?_
  refine pf_get h ok d_Page_begin_28 f_Page_18 (by first | rfl | exact hk | exact hk2 | assumption) rfl rfl ?_
  refine pg_iconst (v := (-1)) h d_Page_begin_31 (by decide) ?_
  refine pg_cS0 h d_Page_begin_32 m_JArr_fill l_Page_29 (c_JArr_fill w ok _ 17 k 4 (-1) hk (fun _ => rfl) (by decide)) rfl rfl (Nat.le_of_ble_eq_true rfl) ⟨(Nat.le_of_ble_eq_true rfl), (Nat.le_of_ble_eq_true rfl)⟩ ⟨Nat.le_refl _, Nat.le_refl _⟩ ?_
  exact pf_vret h d_Page_begin_35 (by rfl)

/-- Page.copyFrom: page k2 into page k -/
def cpP (S : pf_S) (k2 k : Nat) : pf_S := fun a b j => if b = k then (if a = 14 then (if j < 5 then S 14 k2 j else S 14 k j) else if a = 15 then (if j < 160 then S 15 k2 j else S 15 k j) else if a = 16 then (if j < 160 then S 16 k2 j else S 16 k j) else if a = 17 then (if j < 4 then S 17 k2 j else S 17 k j) else S a b j) else S a b j
theorem cpy0 (f g : Nat → Int32) (n : Nat) : va_cpy f g 0 0 n = fun j => if j < n then f j else g j := by
  funext j
  simp [va_cpy]
theorem pf_st_at (S : pf_S) (kd ix k : Nat) (v : Int32) (a b c : Nat) : pf_st S kd ix k v a b c = if a = kd ∧ b = ix ∧ c = k then v else S a b c := by
  by_cases h : a = kd ∧ b = ix
  · obtain ⟨rfl, rfl⟩ := h
    simp [pf_st, upd]
  · by_cases h2 : a = kd ∧ b = ix ∧ c = k
    · exact absurd ⟨h2.1, h2.2.1⟩ h
    · rw [if_neg h2]
      simp only [pf_st, if_neg h]
theorem pf_rw_app (S : pf_S) (kd ix : Nat) (g : Nat → Int32) (a b c : Nat) : pf_rw S kd ix g a b c = if a = kd ∧ b = ix then g c else S a b c := by
  by_cases h : a = kd ∧ b = ix
  · simp only [pf_rw, if_pos h]
  · simp only [pf_rw, if_neg h]

set_option maxRecDepth 100000 in
set_option maxHeartbeats 4000000 in
theorem c_Page_copyFrom (w : pf_W) (ok : pf_ok w) (S : pf_S) (k : Nat) (hk : pf_dm w.2.2.1 14 k = true) (k2 : Nat) (hk2 : pf_dm w.2.2.1 14 k2 = true) (hne : k2 ≠ k) : pf_C w y_Page_copyFrom b_Page_copyFrom 2 none 1 40 [.ref (w.2.1 14 k), .ref (w.2.1 14 k2)] S (none) (cpP S k2 k) := by
  refine pf_enter (by decide) (Nat.le_of_ble_eq_true rfl) (lv0 := [some (.ref (w.2.1 14 k)), some (.ref (w.2.1 14 k2))]) rfl (fun κ h => ?_)
  refine pg_aload_n h d_Page_copyFrom_0 rfl ?_
  refine pg_aload_n h d_Page_copyFrom_1 rfl ?_
  refine pf_get h ok d_Page_copyFrom_2 f_Page_21 (by first | rfl | exact hk | exact hk2 | assumption) rfl rfl ?_
  refine pf_putz _ h ok d_Page_copyFrom_5 fw_Page_21 (by first | rfl | exact hk | exact hk2 | assumption) rfl (Nat.le_of_ble_eq_true rfl) rfl ?_
  refine pg_aload_n h d_Page_copyFrom_8 rfl ?_
  refine pg_aload_n h d_Page_copyFrom_9 rfl ?_
  refine pf_get h ok d_Page_copyFrom_10 f_Page_25 (by first | rfl | exact hk | exact hk2 | assumption) rfl rfl ?_
  refine pf_puti h ok d_Page_copyFrom_13 fw_Page_25 (by first | rfl | exact hk | exact hk2 | assumption) rfl (Nat.le_of_ble_eq_true rfl) rfl ?_
  refine pg_aload_n h d_Page_copyFrom_16 rfl ?_
  refine pg_aload_n h d_Page_copyFrom_17 rfl ?_
  refine pf_get h ok d_Page_copyFrom_18 f_Page_35 (by first | rfl | exact hk | exact hk2 | assumption) rfl rfl ?_
  refine pf_puti h ok d_Page_copyFrom_21 fw_Page_35 (by first | rfl | exact hk | exact hk2 | assumption) rfl (Nat.le_of_ble_eq_true rfl) rfl ?_
  refine pg_aload_n h d_Page_copyFrom_24 rfl ?_
  refine pg_aload_n h d_Page_copyFrom_25 rfl ?_
  refine pf_get h ok d_Page_copyFrom_26 f_Page_38 (by first | rfl | exact hk | exact hk2 | assumption) rfl rfl ?_
  refine pf_puti h ok d_Page_copyFrom_29 fw_Page_38 (by first | rfl | exact hk | exact hk2 | assumption) rfl (Nat.le_of_ble_eq_true rfl) rfl ?_
  refine pg_aload_n h d_Page_copyFrom_32 rfl ?_
  refine pg_aload_n h d_Page_copyFrom_33 rfl ?_
  refine pf_get h ok d_Page_copyFrom_34 f_Page_41 (by first | rfl | exact hk | exact hk2 | assumption) rfl rfl ?_
  refine pf_puti h ok d_Page_copyFrom_37 fw_Page_41 (by first | rfl | exact hk | exact hk2 | assumption) rfl (Nat.le_of_ble_eq_true rfl) rfl ?_
  refine pg_aload_n h d_Page_copyFrom_40 rfl ?_
  refine pf_get h ok d_Page_copyFrom_41 f_Page_9 (by first | rfl | exact hk | exact hk2 | assumption) rfl rfl ?_
  refine pg_iconst (v := 0) h d_Page_copyFrom_44 (by decide) ?_
  refine pg_aload_n h d_Page_copyFrom_45 rfl ?_
  refine pf_get h ok d_Page_copyFrom_46 f_Page_9 (by first | rfl | exact hk | exact hk2 | assumption) rfl rfl ?_
  refine pg_iconst (v := 0) h d_Page_copyFrom_49 (by decide) ?_
  refine pg_aload_n h d_Page_copyFrom_50 rfl ?_
  refine pf_get h ok d_Page_copyFrom_51 f_Page_9 (by first | rfl | exact hk | exact hk2 | assumption) rfl rfl ?_
  refine pf_len (t0 := 0) (v := nI 160) h ok d_Page_copyFrom_54 (by first | rfl | exact hk | exact hk2 | assumption) rfl rfl rfl ?_
  refine pf_cpy (kd := 15) (ix := k2) (kd2 := 15) (ix2 := k) (n := 160) h ok d_Page_copyFrom_55 (pg_tb 342 rfl rfl) hk2 rfl hk (fun _ => rfl) (by decide) ⟨by decide, by decide⟩ ?_
  refine pg_aload_n h d_Page_copyFrom_58 rfl ?_
  refine pf_get h ok d_Page_copyFrom_59 f_Page_15 (by first | rfl | exact hk | exact hk2 | assumption) rfl rfl ?_
  refine pg_iconst (v := 0) h d_Page_copyFrom_62 (by decide) ?_
  refine pg_aload_n h d_Page_copyFrom_63 rfl ?_
  refine pf_get h ok d_Page_copyFrom_64 f_Page_15 (by first | rfl | exact hk | exact hk2 | assumption) rfl rfl ?_
  refine pg_iconst (v := 0) h d_Page_copyFrom_67 (by decide) ?_
  refine pg_aload_n h d_Page_copyFrom_68 rfl ?_
  refine pf_get h ok d_Page_copyFrom_69 f_Page_15 (by first | rfl | exact hk | exact hk2 | assumption) rfl rfl ?_
  refine pf_len (t0 := 0) (v := nI 160) h ok d_Page_copyFrom_72 (by first | rfl | exact hk | exact hk2 | assumption) rfl rfl rfl ?_
  refine pf_cpy (kd := 16) (ix := k2) (kd2 := 16) (ix2 := k) (n := 160) h ok d_Page_copyFrom_73 (pg_tb 342 rfl rfl) hk2 rfl hk (fun _ => rfl) (by decide) ⟨by decide, by decide⟩ ?_
  refine pg_aload_n h d_Page_copyFrom_76 rfl ?_
  refine pf_get h ok d_Page_copyFrom_77 f_Page_18 (by first | rfl | exact hk | exact hk2 | assumption) rfl rfl ?_
  refine pg_iconst (v := 0) h d_Page_copyFrom_80 (by decide) ?_
  refine pg_aload_n h d_Page_copyFrom_81 rfl ?_
  refine pf_get h ok d_Page_copyFrom_82 f_Page_18 (by first | rfl | exact hk | exact hk2 | assumption) rfl rfl ?_
  refine pg_iconst (v := 0) h d_Page_copyFrom_85 (by decide) ?_
  refine pg_aload_n h d_Page_copyFrom_86 rfl ?_
  refine pf_get h ok d_Page_copyFrom_87 f_Page_18 (by first | rfl | exact hk | exact hk2 | assumption) rfl rfl ?_
  refine pf_len (t0 := 0) (v := nI 4) h ok d_Page_copyFrom_90 (by first | rfl | exact hk | exact hk2 | assumption) rfl rfl rfl ?_
  refine pf_cpy (kd := 17) (ix := k2) (kd2 := 17) (ix2 := k) (n := 4) h ok d_Page_copyFrom_91 (pg_tb 342 rfl rfl) hk2 rfl hk (fun _ => rfl) (by decide) ⟨by decide, by decide⟩ ?_
  exact pf_vret h d_Page_copyFrom_94 (by clear h ok hk hk2; funext a b j; simp only [cpP, pf_rw_app, pf_st_at, cpy0]; grind (splits := 40))
end
section
/-! Shelf and Remote. -/
theorem dm12 (P : Nat) : pf_dm P 14 12 = true := by simp [pf_dm]
theorem dmS {P j : Nat} (h : j < P) : pf_dm P 14 (8 + j) = true := by
  simp only [pf_dm, Bool.or_eq_true, decide_eq_true_eq]
  omega
theorem dmC {P k : Nat} (h : k < 8) : pf_dm P 14 k = true := by
  simp only [pf_dm, Bool.or_eq_true, decide_eq_true_eq]
  omega
theorem dmK {P k : Nat} (h : k < 8 + P) : pf_dm P 14 k = true := by
  simp only [pf_dm, Bool.or_eq_true, decide_eq_true_eq]
  omega
/-- a page or null -/
def pgV (w : pf_W) (o : Option Nat) : Value := match o with
  | none => .null
  | some k => .ref (w.2.1 14 k)
def fndFrom (S : pf_S) (num : Int32) : Nat → Nat → Option Nat
  | 0, _ => none
  | n + 1, j => if nb (S 14 (8 + j) 0) = 0 then fndFrom S num n (j + 1) else if ¬ S 14 (8 + j) 1 = num then fndFrom S num n (j + 1) else some (8 + j)
/-- Shelf.find -/
def fndF (S : pf_S) (P : Nat) (num : Int32) : Option Nat := fndFrom S num P 0
theorem fndFrom_some {S : pf_S} {num : Int32} : ∀ {n j k : Nat}, fndFrom S num n j = some k → 8 + j ≤ k ∧ k < 8 + j + n ∧ ¬ nb (S 14 k 0) = 0 ∧ S 14 k 1 = num := by
  intro n
  induction n with
  | zero => intro j k h; simp [fndFrom] at h
  | succ n ih =>
    intro j k h
    rw [fndFrom] at h
    by_cases h1 : nb (S 14 (8 + j) 0) = 0
    · rw [if_pos h1] at h
      obtain ⟨a, b, c⟩ := ih h
      exact ⟨by omega, by omega, c⟩
    · rw [if_neg h1] at h
      by_cases h2 : ¬ S 14 (8 + j) 1 = num
      · rw [if_pos h2] at h
        obtain ⟨a, b, c⟩ := ih h
        exact ⟨by omega, by omega, c⟩
      · rw [if_neg h2] at h
        cases h
        exact ⟨by omega, by omega, h1, Classical.not_not.mp h2⟩
theorem fndF_some {S : pf_S} {P k : Nat} {num : Int32} (h : fndF S P num = some k) : 8 ≤ k ∧ k < 8 + P ∧ ¬ nb (S 14 k 0) = 0 ∧ S 14 k 1 = num := by
  obtain ⟨a, b, c⟩ := fndFrom_some h
  exact ⟨by omega, by omega, c⟩

set_option maxRecDepth 100000 in
set_option maxHeartbeats 4000000 in
theorem c_Shelf_find (w : pf_W) (ok : pf_ok w) (S : pf_S) (hw : 1 ≤ w.2.2.1 ∧ w.2.2.1 ≤ 4) (num : Int32) : pf_C w y_Shelf_find b_Shelf_find 3 (some (.object "PageReceiver$Page")) 0 0 [.ref (w.2.1 4 0), .int num] S (some (pgV w (fndF S w.2.2.1 num))) (S) := by
  refine pf_enter (by decide) (Nat.le_of_ble_eq_true rfl) (lv0 := [some (.ref (w.2.1 4 0)), some (.int num), none]) rfl (fun κ h => ?_)
  have loop : ∀ (n j : Nat), j + n = w.2.2.1 → fndFrom S num n j = fndF S w.2.2.1 num → pg_G κ w.1 3 0 0 (pg_Q κ w.1 (fun r' H => r' = (some (pgV w (fndF S w.2.2.1 num))) ∧ pf_P w (S) H) 0 0) (pf_P w (S)) 2 [some (.ref (w.2.1 4 0)), some (.int num), some (.int (nI j))] [] := by
    intro n
    induction n with
    | zero =>
      intro j hj hI
      have hj : j = w.2.2.1 := by omega
      subst hj
      refine pg_iload_n h d_Shelf_find_2 rfl ?_
      refine pg_aload_n h d_Shelf_find_3 rfl ?_
      refine pf_get h ok d_Shelf_find_4 f_Shelf_17 (by first | rfl | exact hk | exact hk2 | exact dm12 _ | assumption) rfl rfl ?_
      refine pf_len (t0 := 2) (v := nI w.2.2.1) h ok d_Shelf_find_7 (by first | rfl | exact hk | exact hk2 | exact dm12 _ | assumption) rfl rfl rfl ?_
      refine pg_icmp_ge (tgt := 49) h d_Shelf_find_8 rfl (fun e8 => ?_) (fun e8 => absurd e8 (fun e => e (Int32.le_refl _)))
      refine pg_null h d_Shelf_find_49 ?_
      exact pf_aret h d_Shelf_find_50 (by first | exact Or.inl rfl | exact Or.inr ⟨_, rfl⟩) (by rw [← hI]; rfl) rfl
    | succ n ih =>
      intro j hj hI
      have hj2 : j < w.2.2.1 := by omega
      have hk := dmS hj2
      rw [fndFrom] at hI
      refine pg_iload_n h d_Shelf_find_2 rfl ?_
      refine pg_aload_n h d_Shelf_find_3 rfl ?_
      refine pf_get h ok d_Shelf_find_4 f_Shelf_17 (by first | rfl | exact hk | exact hk2 | exact dm12 _ | assumption) rfl rfl ?_
      refine pf_len (t0 := 2) (v := nI w.2.2.1) h ok d_Shelf_find_7 (by first | rfl | exact hk | exact hk2 | exact dm12 _ | assumption) rfl rfl rfl ?_
      refine pg_icmp_ge (tgt := 49) h d_Shelf_find_8 rfl (fun e8 => absurd e8 (nI_ge hj2 (by omega))) (fun e8 => ?_)
      refine pg_aload_n h d_Shelf_find_11 rfl ?_
      refine pf_get h ok d_Shelf_find_12 f_Shelf_17 (by first | rfl | exact hk | exact hk2 | exact dm12 _ | assumption) rfl rfl ?_
      refine pg_iload_n h d_Shelf_find_15 rfl ?_
      refine pf_ald h ok d_Shelf_find_16 (by first | rfl | exact hk | exact hk2 | exact dm12 _ | assumption) rfl (pg_ixN rfl hj2 (by omega)) rfl ?_
      refine pf_get h ok d_Shelf_find_17 f_Shelf_22 (by first | rfl | exact hk | exact hk2 | exact dm12 _ | assumption) rfl rfl ?_
      refine pg_if_eq (tgt := 43) h d_Shelf_find_20 rfl (fun e20 => ?_) (fun e20 => ?_)
      · skip
        refine pg_iinc (w := 1) h d_Shelf_find_43 rfl (by decide) (Nat.le_of_ble_eq_true rfl) rfl rfl ?_
        refine pg_goto (tgt := 2) h d_Shelf_find_46 rfl ?_
        rw [← nI_succ j]
        first | exact ih (j + 1) (by omega) (by rw [if_pos e20] at hI; exact hI) | exact ih (j + 1) (by omega) (by rw [if_neg e20, if_pos e33] at hI; exact hI)
      refine pg_aload_n h d_Shelf_find_23 rfl ?_
      refine pf_get h ok d_Shelf_find_24 f_Shelf_17 (by first | rfl | exact hk | exact hk2 | exact dm12 _ | assumption) rfl rfl ?_
      refine pg_iload_n h d_Shelf_find_27 rfl ?_
      refine pf_ald h ok d_Shelf_find_28 (by first | rfl | exact hk | exact hk2 | exact dm12 _ | assumption) rfl (pg_ixN rfl hj2 (by omega)) rfl ?_
      refine pf_get h ok d_Shelf_find_29 f_Shelf_26 (by first | rfl | exact hk | exact hk2 | exact dm12 _ | assumption) rfl rfl ?_
      refine pg_iload_n h d_Shelf_find_32 rfl ?_
      refine pg_icmp_ne (tgt := 43) h d_Shelf_find_33 rfl (fun e33 => ?_) (fun e33 => ?_)
      · skip
        refine pg_iinc (w := 1) h d_Shelf_find_43 rfl (by decide) (Nat.le_of_ble_eq_true rfl) rfl rfl ?_
        refine pg_goto (tgt := 2) h d_Shelf_find_46 rfl ?_
        rw [← nI_succ j]
        first | exact ih (j + 1) (by omega) (by rw [if_pos e20] at hI; exact hI) | exact ih (j + 1) (by omega) (by rw [if_neg e20, if_pos e33] at hI; exact hI)
      refine pg_aload_n h d_Shelf_find_36 rfl ?_
      refine pf_get h ok d_Shelf_find_37 f_Shelf_17 (by first | rfl | exact hk | exact hk2 | exact dm12 _ | assumption) rfl rfl ?_
      refine pg_iload_n h d_Shelf_find_40 rfl ?_
      refine pf_ald h ok d_Shelf_find_41 (by first | rfl | exact hk | exact hk2 | exact dm12 _ | assumption) rfl (pg_ixN rfl hj2 (by omega)) rfl ?_
      exact pf_aret h d_Shelf_find_42 (by first | exact Or.inl rfl | exact Or.inr ⟨_, rfl⟩) (by rw [if_neg e20, if_neg (fun q => q e33)] at hI; rw [← hI]; rfl) rfl
  refine pg_iconst (v := 0) h d_Shelf_find_0 (by decide) ?_
  refine pg_istore_n h d_Shelf_find_1 (Nat.le_of_ble_eq_true rfl) rfl rfl ?_
  exact loop w.2.2.1 0 (by omega) rfl

theorem c_find_some (w : pf_W) (ok : pf_ok w) (S : pf_S) (hw : 1 ≤ w.2.2.1 ∧ w.2.2.1 ≤ 4) (num : Int32) {k : Nat} (hf : fndF S w.2.2.1 num = some k) : pf_C w y_Shelf_find b_Shelf_find 3 (some (.object "PageReceiver$Page")) 0 0 [.ref (w.2.1 4 0), .int num] S (some (.ref (w.2.1 14 k))) S := by
  have q := c_Shelf_find w ok S hw num
  rw [hf] at q
  exact q
theorem c_find_none (w : pf_W) (ok : pf_ok w) (S : pf_S) (hw : 1 ≤ w.2.2.1 ∧ w.2.2.1 ≤ 4) (num : Int32) (hf : fndF S w.2.2.1 num = none) : pf_C w y_Shelf_find b_Shelf_find 3 (some (.object "PageReceiver$Page")) 0 0 [.ref (w.2.1 4 0), .int num] S (some .null) S := by
  have q := c_Shelf_find w ok S hw num
  rw [hf] at q
  exact q
theorem ixP {x : Int32} {P : Nat} (h0 : ¬ x < 0) (h1 : ¬ nI P ≤ x) (hP : P < 2 ^ 31) : pg_ix x P x.toNatClampNeg ∧ x.toNatClampNeg < P := by
  obtain ⟨j, hj, rfl⟩ := nI_of h0
  have hj2 : j < P := Nat.not_le.mp (fun q => h1 (nI_le q hj))
  rw [nI_clamp hj]
  exact ⟨pg_ixN rfl hj2 hP, hj2⟩
/-- Shelf.pageIn -/
def pinF (S : pf_S) (P : Nat) (x : Int32) : Option Nat := if x < 0 then none else if nI P ≤ x then none else if nb (S 14 (8 + x.toNatClampNeg) 0) = 0 then none else some (8 + x.toNatClampNeg)
theorem pinF_some {S : pf_S} {P k : Nat} {x : Int32} (hP : P < 2 ^ 31) (h : pinF S P x = some k) : k < 8 + P := by
  unfold pinF at h
  by_cases h1 : x < 0
  · rw [if_pos h1] at h; cases h
  · rw [if_neg h1] at h
    by_cases h2 : nI P ≤ x
    · rw [if_pos h2] at h; cases h
    · rw [if_neg h2] at h
      have := (ixP h1 h2 hP).2
      split at h
      · cases h
      · cases h
        omega

set_option maxRecDepth 100000 in
set_option maxHeartbeats 4000000 in
theorem c_Shelf_pageIn (w : pf_W) (ok : pf_ok w) (S : pf_S) (hw : 1 ≤ w.2.2.1 ∧ w.2.2.1 ≤ 4) (x : Int32) : pf_C w y_Shelf_pageIn b_Shelf_pageIn 2 (some (.object "PageReceiver$Page")) 0 0 [.ref (w.2.1 4 0), .int x] S (some (pgV w (pinF S w.2.2.1 x))) (S) := by
  refine pf_enter (by decide) (Nat.le_of_ble_eq_true rfl) (lv0 := [some (.ref (w.2.1 4 0)), some (.int x)]) rfl (fun κ h => ?_)
  refine pg_iload_n h d_Shelf_pageIn_0 rfl ?_
  refine pg_if_lt (tgt := 25) h d_Shelf_pageIn_1 rfl (fun e1 => ?_) (fun e1 => ?_)
  · skip
    refine pg_null h d_Shelf_pageIn_25 ?_
    refine pg_goto (tgt := 35) h d_Shelf_pageIn_26 rfl ?_
    exact pf_aret h d_Shelf_pageIn_35 (by first | exact Or.inl rfl | exact Or.inr ⟨_, rfl⟩) (by simp [pinF, pgV, *]) rfl
  refine pg_iload_n h d_Shelf_pageIn_4 rfl ?_
  refine pg_aload_n h d_Shelf_pageIn_5 rfl ?_
  refine pf_get h ok d_Shelf_pageIn_6 f_Shelf_17 (by first | rfl | exact hk | exact hk2 | exact dm12 _ | assumption) rfl rfl ?_
  refine pf_len (t0 := 2) (v := nI w.2.2.1) h ok d_Shelf_pageIn_9 (by first | rfl | exact hk | exact hk2 | exact dm12 _ | assumption) rfl rfl rfl ?_
  refine pg_icmp_ge (tgt := 25) h d_Shelf_pageIn_10 rfl (fun e10 => ?_) (fun e10 => ?_)
  · skip
    refine pg_null h d_Shelf_pageIn_25 ?_
    refine pg_goto (tgt := 35) h d_Shelf_pageIn_26 rfl ?_
    exact pf_aret h d_Shelf_pageIn_35 (by first | exact Or.inl rfl | exact Or.inr ⟨_, rfl⟩) (by simp [pinF, pgV, *]) rfl
  have hix := ixP e1 e10 (by omega)
  have hk := dmS hix.2
  refine pg_aload_n h d_Shelf_pageIn_13 rfl ?_
  refine pf_get h ok d_Shelf_pageIn_14 f_Shelf_17 (by first | rfl | exact hk | exact hk2 | exact dm12 _ | assumption) rfl rfl ?_
  refine pg_iload_n h d_Shelf_pageIn_17 rfl ?_
  refine pf_ald h ok d_Shelf_pageIn_18 (by first | rfl | exact hk | exact hk2 | exact dm12 _ | assumption) rfl hix.1 rfl ?_
  refine pf_get h ok d_Shelf_pageIn_19 f_Shelf_22 (by first | rfl | exact hk | exact hk2 | exact dm12 _ | assumption) rfl rfl ?_
  refine pg_if_ne (tgt := 29) h d_Shelf_pageIn_22 rfl (fun e22 => ?_) (fun e22 => ?_)
  · skip
    refine pg_aload_n h d_Shelf_pageIn_29 rfl ?_
    refine pf_get h ok d_Shelf_pageIn_30 f_Shelf_17 (by first | rfl | exact hk | exact hk2 | exact dm12 _ | assumption) rfl rfl ?_
    refine pg_iload_n h d_Shelf_pageIn_33 rfl ?_
    refine pf_ald h ok d_Shelf_pageIn_34 (by first | rfl | exact hk | exact hk2 | exact dm12 _ | assumption) rfl hix.1 rfl ?_
    exact pf_aret h d_Shelf_pageIn_35 (by first | exact Or.inl rfl | exact Or.inr ⟨_, rfl⟩) (by simp [pinF, pgV, *]) rfl
  refine pg_null h d_Shelf_pageIn_25 ?_
  refine pg_goto (tgt := 35) h d_Shelf_pageIn_26 rfl ?_
  exact pf_aret h d_Shelf_pageIn_35 (by first | exact Or.inl rfl | exact Or.inr ⟨_, rfl⟩) (by simp [pinF, pgV, *]) rfl

def oldFrom (S : pf_S) (wt : Int32) : Nat → Nat → Nat → Nat
  | 0, _, b => b
  | n + 1, j, b => oldFrom S wt n (j + 1) (if ¬ S 14 (8 + j) 1 = wt ∧ (S 14 (8 + j) 4 < S 14 b 4 ∨ S 14 b 1 = wt) then 8 + j else b)
/-- Shelf.oldest -/
def oldF (S : pf_S) (P : Nat) (wt : Int32) : Nat := oldFrom S wt (P - 1) 1 8
theorem oldFrom_lt {S : pf_S} {wt : Int32} {P : Nat} : ∀ {n j b : Nat}, j + n ≤ P → 8 ≤ b → b < 8 + P → 8 ≤ oldFrom S wt n j b ∧ oldFrom S wt n j b < 8 + P := by
  intro n
  induction n with
  | zero => intro j b _ h1 h2; exact ⟨h1, h2⟩
  | succ n ih =>
    intro j b h h1 h2
    rw [oldFrom]
    split
    · exact ih (by omega) (by omega) (by omega)
    · exact ih (by omega) h1 h2

set_option maxRecDepth 100000 in
set_option maxHeartbeats 4000000 in
theorem c_Shelf_oldest (w : pf_W) (ok : pf_ok w) (S : pf_S) (hw : 1 ≤ w.2.2.1 ∧ w.2.2.1 ≤ 4) (wt : Int32) : pf_C w y_Shelf_oldest b_Shelf_oldest 6 (some (.object "PageReceiver$Page")) 0 0 [.ref (w.2.1 4 0), .int wt] S (some (.ref (w.2.1 14 (oldF S w.2.2.1 wt)))) (S) := by
  refine pf_enter (by decide) (Nat.le_of_ble_eq_true rfl) (lv0 := [some (.ref (w.2.1 4 0)), some (.int wt), none, none, none, none]) rfl (fun κ h => ?_)
  have loop : ∀ (n j b : Nat) (X Y : Option Value), j + n = w.2.2.1 → pf_dm w.2.2.1 14 b = true → oldFrom S wt n j b = oldF S w.2.2.1 wt → pg_G κ w.1 6 0 0 (pg_Q κ w.1 (fun r' H => r' = (some (.ref (w.2.1 14 (oldF S w.2.2.1 wt)))) ∧ pf_P w (S) H) 0 0) (pf_P w (S)) 9 [some (.ref (w.2.1 4 0)), some (.int wt), some (.ref (w.2.1 14 b)), some (.int (nI j)), X, Y] [] := by
    intro n
    induction n with
    | zero =>
      intro j b X Y hj hk2 hI
      have hj : j = w.2.2.1 := by omega
      subst hj
      refine pg_iload_n h d_Shelf_oldest_9 rfl ?_
      refine pg_aload_n h d_Shelf_oldest_10 rfl ?_
      refine pf_get h ok d_Shelf_oldest_11 f_Shelf_17 (by first | rfl | exact hk | exact hk2 | exact dm12 _ | assumption) rfl rfl ?_
      refine pf_len (t0 := 2) (v := nI w.2.2.1) h ok d_Shelf_oldest_14 (by first | rfl | exact hk | exact hk2 | exact dm12 _ | assumption) rfl rfl rfl ?_
      refine pg_icmp_ge (tgt := 76) h d_Shelf_oldest_15 rfl (fun e15 => ?_) (fun e15 => absurd e15 (fun e => e (Int32.le_refl _)))
      refine pg_aload_n h d_Shelf_oldest_76 rfl ?_
      exact pf_aret h d_Shelf_oldest_77 (by first | exact Or.inl rfl | exact Or.inr ⟨_, rfl⟩) (by rw [← hI]; rfl) rfl
    | succ n ih =>
      intro j b X Y hj hk2 hI
      have hj2 : j < w.2.2.1 := by omega
      have hk := dmS hj2
      refine pg_iload_n h d_Shelf_oldest_9 rfl ?_
      refine pg_aload_n h d_Shelf_oldest_10 rfl ?_
      refine pf_get h ok d_Shelf_oldest_11 f_Shelf_17 (by first | rfl | exact hk | exact hk2 | exact dm12 _ | assumption) rfl rfl ?_
      refine pf_len (t0 := 2) (v := nI w.2.2.1) h ok d_Shelf_oldest_14 (by first | rfl | exact hk | exact hk2 | exact dm12 _ | assumption) rfl rfl rfl ?_
      refine pg_icmp_ge (tgt := 76) h d_Shelf_oldest_15 rfl (fun e15 => absurd e15 (nI_ge hj2 (by omega))) (fun e15 => ?_)
      refine pg_aload_n h d_Shelf_oldest_18 rfl ?_
      refine pf_get h ok d_Shelf_oldest_19 f_Shelf_17 (by first | rfl | exact hk | exact hk2 | exact dm12 _ | assumption) rfl rfl ?_
      refine pg_iload_n h d_Shelf_oldest_22 rfl ?_
      refine pf_ald h ok d_Shelf_oldest_23 (by first | rfl | exact hk | exact hk2 | exact dm12 _ | assumption) rfl (pg_ixN rfl hj2 (by omega)) rfl ?_
      refine pg_astore h d_Shelf_oldest_24 (Nat.le_of_ble_eq_true rfl) rfl rfl ?_
      refine pg_aload h d_Shelf_oldest_26 rfl ?_
      refine pf_get h ok d_Shelf_oldest_28 f_Shelf_38 (by first | rfl | exact hk | exact hk2 | exact dm12 _ | assumption) rfl rfl ?_
      refine pg_aload_n h d_Shelf_oldest_31 rfl ?_
      refine pf_get h ok d_Shelf_oldest_32 f_Shelf_38 (by first | rfl | exact hk | exact hk2 | exact dm12 _ | assumption) rfl rfl ?_
      refine pg_icmp_ge (tgt := 42) h d_Shelf_oldest_35 rfl (fun e35 => ?_) (fun e35 => ?_)
      · skip
        refine pg_iconst (v := 0) h d_Shelf_oldest_42 (by decide) ?_
        refine pg_istore h d_Shelf_oldest_43 (Nat.le_of_ble_eq_true rfl) rfl rfl ?_
        refine pg_aload h d_Shelf_oldest_45 rfl ?_
        refine pf_get h ok d_Shelf_oldest_47 f_Shelf_26 (by first | rfl | exact hk | exact hk2 | exact dm12 _ | assumption) rfl rfl ?_
        refine pg_iload_n h d_Shelf_oldest_50 rfl ?_
        refine pg_icmp_eq (tgt := 70) h d_Shelf_oldest_51 rfl (fun e51 => ?_) (fun e51 => ?_)
        · skip
          refine pg_iinc (w := 1) h d_Shelf_oldest_70 rfl (by decide) (Nat.le_of_ble_eq_true rfl) rfl rfl ?_
          refine pg_goto (tgt := 9) h d_Shelf_oldest_73 rfl ?_
          first
            | exact absurd e56 (by decide)
            | exact absurd rfl e56
            | (rw [← nI_succ j]; exact ih (j + 1) (8 + j) _ _ (by omega) hk (by rw [oldFrom, if_pos (by simp_all)] at hI; exact hI))
            | (rw [← nI_succ j]; exact ih (j + 1) b _ _ (by omega) hk2 (by rw [oldFrom, if_neg (by simp_all)] at hI; exact hI))
        refine pg_iload h d_Shelf_oldest_54 rfl ?_
        refine pg_if_ne (tgt := 67) h d_Shelf_oldest_56 rfl (fun e56 => ?_) (fun e56 => ?_)
        · skip
          refine pg_aload h d_Shelf_oldest_67 rfl ?_
          refine pg_astore_n h d_Shelf_oldest_69 (Nat.le_of_ble_eq_true rfl) rfl rfl ?_
          refine pg_iinc (w := 1) h d_Shelf_oldest_70 rfl (by decide) (Nat.le_of_ble_eq_true rfl) rfl rfl ?_
          refine pg_goto (tgt := 9) h d_Shelf_oldest_73 rfl ?_
          first
            | exact absurd e56 (by decide)
            | exact absurd rfl e56
            | (rw [← nI_succ j]; exact ih (j + 1) (8 + j) _ _ (by omega) hk (by rw [oldFrom, if_pos (by simp_all)] at hI; exact hI))
            | (rw [← nI_succ j]; exact ih (j + 1) b _ _ (by omega) hk2 (by rw [oldFrom, if_neg (by simp_all)] at hI; exact hI))
        refine pg_aload_n h d_Shelf_oldest_59 rfl ?_
        refine pf_get h ok d_Shelf_oldest_60 f_Shelf_26 (by first | rfl | exact hk | exact hk2 | exact dm12 _ | assumption) rfl rfl ?_
        refine pg_iload_n h d_Shelf_oldest_63 rfl ?_
        refine pg_icmp_ne (tgt := 70) h d_Shelf_oldest_64 rfl (fun e64 => ?_) (fun e64 => ?_)
        · skip
          refine pg_iinc (w := 1) h d_Shelf_oldest_70 rfl (by decide) (Nat.le_of_ble_eq_true rfl) rfl rfl ?_
          refine pg_goto (tgt := 9) h d_Shelf_oldest_73 rfl ?_
          first
            | exact absurd e56 (by decide)
            | exact absurd rfl e56
            | (rw [← nI_succ j]; exact ih (j + 1) (8 + j) _ _ (by omega) hk (by rw [oldFrom, if_pos (by simp_all)] at hI; exact hI))
            | (rw [← nI_succ j]; exact ih (j + 1) b _ _ (by omega) hk2 (by rw [oldFrom, if_neg (by simp_all)] at hI; exact hI))
        refine pg_aload h d_Shelf_oldest_67 rfl ?_
        refine pg_astore_n h d_Shelf_oldest_69 (Nat.le_of_ble_eq_true rfl) rfl rfl ?_
        refine pg_iinc (w := 1) h d_Shelf_oldest_70 rfl (by decide) (Nat.le_of_ble_eq_true rfl) rfl rfl ?_
        refine pg_goto (tgt := 9) h d_Shelf_oldest_73 rfl ?_
        first
          | exact absurd e56 (by decide)
          | exact absurd rfl e56
          | (rw [← nI_succ j]; exact ih (j + 1) (8 + j) _ _ (by omega) hk (by rw [oldFrom, if_pos (by simp_all)] at hI; exact hI))
          | (rw [← nI_succ j]; exact ih (j + 1) b _ _ (by omega) hk2 (by rw [oldFrom, if_neg (by simp_all)] at hI; exact hI))
      refine pg_iconst (v := 1) h d_Shelf_oldest_38 (by decide) ?_
      refine pg_goto (tgt := 43) h d_Shelf_oldest_39 rfl ?_
      refine pg_istore h d_Shelf_oldest_43 (Nat.le_of_ble_eq_true rfl) rfl rfl ?_
      refine pg_aload h d_Shelf_oldest_45 rfl ?_
      refine pf_get h ok d_Shelf_oldest_47 f_Shelf_26 (by first | rfl | exact hk | exact hk2 | exact dm12 _ | assumption) rfl rfl ?_
      refine pg_iload_n h d_Shelf_oldest_50 rfl ?_
      refine pg_icmp_eq (tgt := 70) h d_Shelf_oldest_51 rfl (fun e51 => ?_) (fun e51 => ?_)
      · skip
        refine pg_iinc (w := 1) h d_Shelf_oldest_70 rfl (by decide) (Nat.le_of_ble_eq_true rfl) rfl rfl ?_
        refine pg_goto (tgt := 9) h d_Shelf_oldest_73 rfl ?_
        first
          | exact absurd e56 (by decide)
          | exact absurd rfl e56
          | (rw [← nI_succ j]; exact ih (j + 1) (8 + j) _ _ (by omega) hk (by rw [oldFrom, if_pos (by simp_all)] at hI; exact hI))
          | (rw [← nI_succ j]; exact ih (j + 1) b _ _ (by omega) hk2 (by rw [oldFrom, if_neg (by simp_all)] at hI; exact hI))
      refine pg_iload h d_Shelf_oldest_54 rfl ?_
      refine pg_if_ne (tgt := 67) h d_Shelf_oldest_56 rfl (fun e56 => ?_) (fun e56 => ?_)
      · skip
        refine pg_aload h d_Shelf_oldest_67 rfl ?_
        refine pg_astore_n h d_Shelf_oldest_69 (Nat.le_of_ble_eq_true rfl) rfl rfl ?_
        refine pg_iinc (w := 1) h d_Shelf_oldest_70 rfl (by decide) (Nat.le_of_ble_eq_true rfl) rfl rfl ?_
        refine pg_goto (tgt := 9) h d_Shelf_oldest_73 rfl ?_
        first
          | exact absurd e56 (by decide)
          | exact absurd rfl e56
          | (rw [← nI_succ j]; exact ih (j + 1) (8 + j) _ _ (by omega) hk (by rw [oldFrom, if_pos (by simp_all)] at hI; exact hI))
          | (rw [← nI_succ j]; exact ih (j + 1) b _ _ (by omega) hk2 (by rw [oldFrom, if_neg (by simp_all)] at hI; exact hI))
      refine pg_aload_n h d_Shelf_oldest_59 rfl ?_
      refine pf_get h ok d_Shelf_oldest_60 f_Shelf_26 (by first | rfl | exact hk | exact hk2 | exact dm12 _ | assumption) rfl rfl ?_
      refine pg_iload_n h d_Shelf_oldest_63 rfl ?_
      refine pg_icmp_ne (tgt := 70) h d_Shelf_oldest_64 rfl (fun e64 => ?_) (fun e64 => ?_)
      · skip
        refine pg_iinc (w := 1) h d_Shelf_oldest_70 rfl (by decide) (Nat.le_of_ble_eq_true rfl) rfl rfl ?_
        refine pg_goto (tgt := 9) h d_Shelf_oldest_73 rfl ?_
        first
          | exact absurd e56 (by decide)
          | exact absurd rfl e56
          | (rw [← nI_succ j]; exact ih (j + 1) (8 + j) _ _ (by omega) hk (by rw [oldFrom, if_pos (by simp_all)] at hI; exact hI))
          | (rw [← nI_succ j]; exact ih (j + 1) b _ _ (by omega) hk2 (by rw [oldFrom, if_neg (by simp_all)] at hI; exact hI))
      refine pg_aload h d_Shelf_oldest_67 rfl ?_
      refine pg_astore_n h d_Shelf_oldest_69 (Nat.le_of_ble_eq_true rfl) rfl rfl ?_
      refine pg_iinc (w := 1) h d_Shelf_oldest_70 rfl (by decide) (Nat.le_of_ble_eq_true rfl) rfl rfl ?_
      refine pg_goto (tgt := 9) h d_Shelf_oldest_73 rfl ?_
      first
        | exact absurd e56 (by decide)
        | exact absurd rfl e56
        | (rw [← nI_succ j]; exact ih (j + 1) (8 + j) _ _ (by omega) hk (by rw [oldFrom, if_pos (by simp_all)] at hI; exact hI))
        | (rw [← nI_succ j]; exact ih (j + 1) b _ _ (by omega) hk2 (by rw [oldFrom, if_neg (by simp_all)] at hI; exact hI))
  refine pg_aload_n h d_Shelf_oldest_0 rfl ?_
  refine pf_get h ok d_Shelf_oldest_1 f_Shelf_17 (by first | rfl | exact hk | exact hk2 | exact dm12 _ | assumption) rfl rfl ?_
  refine pg_iconst (v := 0) h d_Shelf_oldest_4 (by decide) ?_
  refine pf_ald h ok d_Shelf_oldest_5 (by first | rfl | exact hk | exact hk2 | exact dm12 _ | assumption) rfl (pg_ixN (j := 0) rfl (by omega) (by omega)) rfl ?_
  refine pg_astore_n h d_Shelf_oldest_6 (Nat.le_of_ble_eq_true rfl) rfl rfl ?_
  refine pg_iconst (v := 1) h d_Shelf_oldest_7 (by decide) ?_
  refine pg_istore_n h d_Shelf_oldest_8 (Nat.le_of_ble_eq_true rfl) rfl rfl ?_
  exact loop (w.2.2.1 - 1) 1 8 none none (by omega) (dmS (j := 0) (by omega)) rfl

def freFrom (S : pf_S) : Nat → Nat → Option Nat
  | 0, _ => none
  | n + 1, j => if nb (S 14 (8 + j) 0) = 0 then some (8 + j) else freFrom S n (j + 1)
/-- Shelf.placeFor -/
def plcF (S : pf_S) (P : Nat) (num wt : Int32) : Nat := match fndF S P num with
  | some k => k
  | none => match freFrom S P 0 with
    | some k => k
    | none => oldF S P wt
theorem freFrom_some {S : pf_S} : ∀ {n j k : Nat}, freFrom S n j = some k → 8 + j ≤ k ∧ k < 8 + j + n ∧ nb (S 14 k 0) = 0 := by
  intro n
  induction n with
  | zero => intro j k h; simp [freFrom] at h
  | succ n ih =>
    intro j k h
    rw [freFrom] at h
    by_cases h1 : nb (S 14 (8 + j) 0) = 0
    · rw [if_pos h1] at h
      cases h
      exact ⟨by omega, by omega, h1⟩
    · rw [if_neg h1] at h
      obtain ⟨a, b, c⟩ := ih h
      exact ⟨by omega, by omega, c⟩
theorem plcF_in {S : pf_S} {P : Nat} {num wt : Int32} (hP : 1 ≤ P) : 8 ≤ plcF S P num wt ∧ plcF S P num wt < 8 + P := by
  unfold plcF
  cases h : fndF S P num with
  | some k =>
    obtain ⟨a, b, -⟩ := fndF_some h
    exact ⟨a, b⟩
  | none =>
    cases h2 : freFrom S P 0 with
    | some k =>
      obtain ⟨a, b, -⟩ := freFrom_some h2
      exact ⟨by simp; omega, by simp; omega⟩
    | none => exact oldFrom_lt (by omega) (by omega) (by omega)

set_option maxRecDepth 100000 in
set_option maxHeartbeats 4000000 in
theorem c_Shelf_placeFor (w : pf_W) (ok : pf_ok w) (S : pf_S) (hw : 1 ≤ w.2.2.1 ∧ w.2.2.1 ≤ 4) (num wt : Int32) : pf_C w y_Shelf_placeFor b_Shelf_placeFor 5 (some (.object "PageReceiver$Page")) 1 25 [.ref (w.2.1 4 0), .int num, .int wt] S (some (.ref (w.2.1 14 (plcF S w.2.2.1 num wt)))) (S) := by
  refine pf_enter (by decide) (Nat.le_of_ble_eq_true rfl) (lv0 := [some (.ref (w.2.1 4 0)), some (.int num), some (.int wt), none, none]) rfl (fun κ h => ?_)
  cases hf : fndF S w.2.2.1 num with
  | some k =>
    have hk : pf_dm w.2.2.1 14 k = true := dmK (fndF_some hf).2.1
    refine pg_aload_n h d_Shelf_placeFor_0 rfl ?_
    refine pg_iload_n h d_Shelf_placeFor_1 rfl ?_
    refine pf_cV h ok d_Shelf_placeFor_2 m_Shelf_find l_Shelf_41 (c_find_some w ok S hw num hf) cn_Shelf (by first | rfl | exact hk | exact hk2 | exact dm12 _ | assumption) rfl rfl rfl (Nat.le_of_ble_eq_true rfl) ⟨(Nat.le_of_ble_eq_true rfl), (Nat.le_of_ble_eq_true rfl)⟩ ⟨Nat.le_refl _, Nat.le_refl _⟩ ?_
    refine pg_astore_n h d_Shelf_placeFor_5 (Nat.le_of_ble_eq_true rfl) rfl rfl ?_
    refine pg_aload_n h d_Shelf_placeFor_6 rfl ?_
    refine pg_ifnull h d_Shelf_placeFor_7 ?_
    refine pg_aload_n h d_Shelf_placeFor_10 rfl ?_
    exact pf_aret h d_Shelf_placeFor_11 (by first | exact Or.inl rfl | exact Or.inr ⟨_, rfl⟩) (by simp only [plcF, hf]) rfl
  | none =>
    have loop : ∀ (n j : Nat), j + n = w.2.2.1 → freFrom S n j = freFrom S w.2.2.1 0 → pg_G κ w.1 5 0 0 (pg_Q κ w.1 (fun r' H => r' = (some (.ref (w.2.1 14 (plcF S w.2.2.1 num wt)))) ∧ pf_P w (S) H) 0 0) (pf_P w (S)) 15 [some (.ref (w.2.1 4 0)), some (.int num), some (.int wt), some .null, some (.int (nI j))] [] := by
      intro n
      induction n with
      | zero =>
        intro j hj hI
        have hj : j = w.2.2.1 := by omega
        subst hj
        refine pg_iload h d_Shelf_placeFor_15 rfl ?_
        refine pg_aload_n h d_Shelf_placeFor_17 rfl ?_
        refine pf_get h ok d_Shelf_placeFor_18 f_Shelf_17 (by first | rfl | exact hk | exact hk2 | exact dm12 _ | assumption) rfl rfl ?_
        refine pf_len (t0 := 2) (v := nI w.2.2.1) h ok d_Shelf_placeFor_21 (by first | rfl | exact hk | exact hk2 | exact dm12 _ | assumption) rfl rfl rfl ?_
        refine pg_icmp_ge (tgt := 52) h d_Shelf_placeFor_22 rfl (fun e22 => ?_) (fun e22 => absurd e22 (fun e => e (Int32.le_refl _)))
        refine pg_aload_n h d_Shelf_placeFor_52 rfl ?_
        refine pg_iload_n h d_Shelf_placeFor_53 rfl ?_
        refine pf_cV h ok d_Shelf_placeFor_54 m_Shelf_oldest l_Shelf_45 (c_Shelf_oldest w ok S hw wt) cn_Shelf (by first | rfl | exact hk | exact hk2 | exact dm12 _ | assumption) rfl rfl rfl (Nat.le_of_ble_eq_true rfl) ⟨(Nat.le_of_ble_eq_true rfl), (Nat.le_of_ble_eq_true rfl)⟩ ⟨Nat.le_refl _, Nat.le_refl _⟩ ?_
        exact pf_aret h d_Shelf_placeFor_57 (by first | exact Or.inl rfl | exact Or.inr ⟨_, rfl⟩) (by simp only [plcF, hf, ← hI, freFrom]) rfl
      | succ n ih =>
        intro j hj hI
        have hj2 : j < w.2.2.1 := by omega
        have hk := dmS hj2
        rw [freFrom] at hI
        refine pg_iload h d_Shelf_placeFor_15 rfl ?_
        refine pg_aload_n h d_Shelf_placeFor_17 rfl ?_
        refine pf_get h ok d_Shelf_placeFor_18 f_Shelf_17 (by first | rfl | exact hk | exact hk2 | exact dm12 _ | assumption) rfl rfl ?_
        refine pf_len (t0 := 2) (v := nI w.2.2.1) h ok d_Shelf_placeFor_21 (by first | rfl | exact hk | exact hk2 | exact dm12 _ | assumption) rfl rfl rfl ?_
        refine pg_icmp_ge (tgt := 52) h d_Shelf_placeFor_22 rfl (fun e22 => absurd e22 (nI_ge hj2 (by omega))) (fun e22 => ?_)
        refine pg_aload_n h d_Shelf_placeFor_25 rfl ?_
        refine pf_get h ok d_Shelf_placeFor_26 f_Shelf_17 (by first | rfl | exact hk | exact hk2 | exact dm12 _ | assumption) rfl rfl ?_
        refine pg_iload h d_Shelf_placeFor_29 rfl ?_
        refine pf_ald h ok d_Shelf_placeFor_31 (by first | rfl | exact hk | exact hk2 | exact dm12 _ | assumption) rfl (pg_ixN rfl hj2 (by omega)) rfl ?_
        refine pf_get h ok d_Shelf_placeFor_32 f_Shelf_22 (by first | rfl | exact hk | exact hk2 | exact dm12 _ | assumption) rfl rfl ?_
        refine pg_if_ne (tgt := 46) h d_Shelf_placeFor_35 rfl (fun e35 => ?_) (fun e35 => ?_)
        · skip
          refine pg_iinc (w := 1) h d_Shelf_placeFor_46 rfl (by decide) (Nat.le_of_ble_eq_true rfl) rfl rfl ?_
          refine pg_goto (tgt := 15) h d_Shelf_placeFor_49 rfl ?_
          rw [← nI_succ j]
          exact ih (j + 1) (by omega) (by rw [if_neg e35] at hI; exact hI)
        refine pg_aload_n h d_Shelf_placeFor_38 rfl ?_
        refine pf_get h ok d_Shelf_placeFor_39 f_Shelf_17 (by first | rfl | exact hk | exact hk2 | exact dm12 _ | assumption) rfl rfl ?_
        refine pg_iload h d_Shelf_placeFor_42 rfl ?_
        refine pf_ald h ok d_Shelf_placeFor_44 (by first | rfl | exact hk | exact hk2 | exact dm12 _ | assumption) rfl (pg_ixN rfl hj2 (by omega)) rfl ?_
        exact pf_aret h d_Shelf_placeFor_45 (by first | exact Or.inl rfl | exact Or.inr ⟨_, rfl⟩) (by rw [if_pos e35] at hI; simp only [plcF, hf, ← hI]) rfl
    refine pg_aload_n h d_Shelf_placeFor_0 rfl ?_
    refine pg_iload_n h d_Shelf_placeFor_1 rfl ?_
    refine pf_cV h ok d_Shelf_placeFor_2 m_Shelf_find l_Shelf_41 (c_find_none w ok S hw num hf) cn_Shelf (by first | rfl | exact hk | exact hk2 | exact dm12 _ | assumption) rfl rfl rfl (Nat.le_of_ble_eq_true rfl) ⟨(Nat.le_of_ble_eq_true rfl), (Nat.le_of_ble_eq_true rfl)⟩ ⟨Nat.le_refl _, Nat.le_refl _⟩ ?_
    refine pg_astore_nN h d_Shelf_placeFor_5 (Nat.le_of_ble_eq_true rfl) rfl rfl ?_
    refine pg_aload_nN h d_Shelf_placeFor_6 rfl ?_
    refine pg_ifnullN (tgt := 12) h d_Shelf_placeFor_7 rfl ?_
    refine pg_iconst (v := 0) h d_Shelf_placeFor_12 (by decide) ?_
    refine pg_istore h d_Shelf_placeFor_13 (Nat.le_of_ble_eq_true rfl) rfl rfl ?_
    exact loop w.2.2.1 0 (by omega) rfl

/-- Shelf.complete of page m -/
def cmpF (S : pf_S) (P m : Nat) (wt : Int32) : pf_S := pf_st (pf_st (pf_st (cpP S m (plcF S P (S 14 m 1) wt)) 14 (plcF S P (S 14 m 1) wt) 4 (S 1 0 5)) 1 0 5 (S 1 0 5 + 1)) 14 m 0 0

set_option maxRecDepth 100000 in
set_option maxHeartbeats 4000000 in
theorem c_Shelf_complete (w : pf_W) (ok : pf_ok w) (S : pf_S) (hw : 1 ≤ w.2.2.1 ∧ w.2.2.1 ≤ 4) (m : Nat) (hm : m < 8) (wt : Int32) : pf_C w y_Shelf_complete b_Shelf_complete 4 none 2 61 [.ref (w.2.1 4 0), .ref (w.2.1 14 m), .int wt] S (none) (cmpF S w.2.2.1 m wt) := by
  refine pf_enter (by decide) (Nat.le_of_ble_eq_true rfl) (lv0 := [some (.ref (w.2.1 4 0)), some (.ref (w.2.1 14 m)), some (.int wt), none]) rfl (fun κ h => ?_)
  have hk : pf_dm w.2.2.1 14 m = true := dmC hm
  have hp := plcF_in (S := S) (num := S 14 m 1) (wt := wt) hw.1
  have hk2 : pf_dm w.2.2.1 14 (plcF S w.2.2.1 (S 14 m 1) wt) = true := dmK hp.2
  refine pg_aload_n h d_Shelf_complete_0 rfl ?_
  refine pg_aload_n h d_Shelf_complete_1 rfl ?_
  refine pf_get h ok d_Shelf_complete_2 f_Shelf_26 (by first | rfl | exact hk | exact hk2 | exact dm12 _ | assumption) rfl rfl ?_
  refine pg_iload_n h d_Shelf_complete_5 rfl ?_
  refine pf_cV h ok d_Shelf_complete_6 m_Shelf_placeFor l_Shelf_30 (c_Shelf_placeFor w ok S hw (S 14 m 1) wt) cn_Shelf (by first | rfl | exact hk | exact hk2 | exact dm12 _ | assumption) rfl rfl rfl (Nat.le_of_ble_eq_true rfl) ⟨(Nat.le_of_ble_eq_true rfl), (Nat.le_of_ble_eq_true rfl)⟩ ⟨Nat.le_refl _, Nat.le_refl _⟩ ?_
  refine pg_astore_n h d_Shelf_complete_9 (Nat.le_of_ble_eq_true rfl) rfl rfl ?_
  refine pg_aload_n h d_Shelf_complete_10 rfl ?_
  refine pg_aload_n h d_Shelf_complete_11 rfl ?_
  refine pf_cV0 h ok d_Shelf_complete_12 m_Page_copyFrom l_Shelf_34 (c_Page_copyFrom w ok S _ hk2 m hk (by omega)) cn_Page (by first | rfl | exact hk | exact hk2 | exact dm12 _ | assumption) rfl rfl rfl (Nat.le_of_ble_eq_true rfl) ⟨(Nat.le_of_ble_eq_true rfl), (Nat.le_of_ble_eq_true rfl)⟩ ⟨Nat.le_refl _, Nat.le_refl _⟩ ?_
  refine pg_aload_n h d_Shelf_complete_15 rfl ?_
  refine pg_aload_n h d_Shelf_complete_16 rfl ?_
  refine pf_get h ok d_Shelf_complete_17 f_Shelf_9 (by first | rfl | exact hk | exact hk2 | exact dm12 _ | assumption) rfl rfl ?_
  refine pg_iconst (v := 5) h d_Shelf_complete_20 (by decide) ?_
  refine pf_ild h ok d_Shelf_complete_21 (by first | rfl | exact hk | exact hk2 | exact dm12 _ | assumption) rfl (pg_ixN (j := 5) rfl (by decide) (by decide)) ?_
  refine pf_puti h ok d_Shelf_complete_22 fw_Shelf_38 (by first | rfl | exact hk | exact hk2 | exact dm12 _ | assumption) rfl (Nat.le_of_ble_eq_true rfl) rfl ?_
  refine pg_aload_n h d_Shelf_complete_25 rfl ?_
  refine pf_get h ok d_Shelf_complete_26 f_Shelf_9 (by first | rfl | exact hk | exact hk2 | exact dm12 _ | assumption) rfl rfl ?_
  refine pg_iconst (v := 5) h d_Shelf_complete_29 (by decide) ?_
  refine pg_dup2 h d_Shelf_complete_30 rfl rfl ?_
  refine pf_ild h ok d_Shelf_complete_31 (by first | rfl | exact hk | exact hk2 | exact dm12 _ | assumption) rfl (pg_ixN (j := 5) rfl (by decide) (by decide)) ?_
  refine pg_iconst (v := 1) h d_Shelf_complete_32 (by decide) ?_
  refine pg_iadd h d_Shelf_complete_33 ?_
  refine pf_ist h ok d_Shelf_complete_34 (by first | rfl | exact hk | exact hk2 | exact dm12 _ | assumption) (fun _ => rfl) (pg_ixN (j := 5) rfl (by decide) (by decide)) ?_
  refine pg_aload_n h d_Shelf_complete_35 rfl ?_
  refine pg_iconst (v := 0) h d_Shelf_complete_36 (by decide) ?_
  refine pf_putz 0 h ok d_Shelf_complete_37 fw_Shelf_22 (by first | rfl | exact hk | exact hk2 | exact dm12 _ | assumption) rfl (Nat.le_of_ble_eq_true rfl) rfl ?_
  exact pf_vret h d_Shelf_complete_40 (by simp only [cmpF, pf_st_at, cpP]; simp)
end
section
/-! Remote; the short methods of PageReceiver. -/
/-- Remote.pageShown -/
def shnF (S : pf_S) (P : Nat) : Option Nat := if nb (S 14 12 0) = 0 then fndF S P (S 6 0 2) else some 12
theorem shnF_dm {S : pf_S} {P k : Nat} (h : shnF S P = some k) : pf_dm P 14 k = true := by
  unfold shnF at h
  split at h
  · exact dmK (fndF_some h).2.1
  · cases h
    exact dm12 P

set_option maxRecDepth 100000 in
set_option maxHeartbeats 4000000 in
theorem c_Remote_pageShown (w : pf_W) (ok : pf_ok w) (S : pf_S) (hw : 1 ≤ w.2.2.1 ∧ w.2.2.1 ≤ 4) : pf_C w y_Remote_pageShown b_Remote_pageShown 1 (some (.object "PageReceiver$Page")) 1 22 [.ref (w.2.1 6 0)] S (some (pgV w (shnF S w.2.2.1))) (S) := by
  refine pf_enter (by decide) (Nat.le_of_ble_eq_true rfl) (lv0 := [some (.ref (w.2.1 6 0))]) rfl (fun κ h => ?_)
  refine pg_aload_n h d_Remote_pageShown_0 rfl ?_
  refine pf_get h ok d_Remote_pageShown_1 f_Remote_12 (by first | rfl | exact hk | exact hk2 | exact dm12 _ | assumption) rfl rfl ?_
  refine pf_get h ok d_Remote_pageShown_4 f_Remote_26 (by first | rfl | exact hk | exact hk2 | exact dm12 _ | assumption) rfl rfl ?_
  refine pg_if_eq (tgt := 17) h d_Remote_pageShown_7 rfl (fun e7 => ?_) (fun e7 => ?_)
  · skip
    refine pg_aload_n h d_Remote_pageShown_17 rfl ?_
    refine pf_get h ok d_Remote_pageShown_18 f_Remote_22 (by first | rfl | exact hk | exact hk2 | exact dm12 _ | assumption) rfl rfl ?_
    refine pg_aload_n h d_Remote_pageShown_21 rfl ?_
    refine pf_get h ok d_Remote_pageShown_22 f_Remote_18 (by first | rfl | exact hk | exact hk2 | exact dm12 _ | assumption) rfl rfl ?_
    refine pf_cV h ok d_Remote_pageShown_25 m_Shelf_find l_Remote_30 (c_Shelf_find w ok S hw _) cn_Shelf (by first | rfl | exact hk | exact hk2 | exact dm12 _ | assumption) rfl rfl rfl (Nat.le_of_ble_eq_true rfl) ⟨(Nat.le_of_ble_eq_true rfl), (Nat.le_of_ble_eq_true rfl)⟩ ⟨Nat.le_refl _, Nat.le_refl _⟩ ?_
    first
      | exact pf_aret h d_Remote_pageShown_28 (Or.inr ⟨_, rfl⟩) (by simp [shnF, pgV, e7]) rfl
      | (refine pf_aret h d_Remote_pageShown_28 ?_ (by simp [shnF, e7]) rfl; cases fndF S w.2.2.1 (S 6 0 2) <;> simp [pgV])--end
  refine pg_aload_n h d_Remote_pageShown_10 rfl ?_
  refine pf_get h ok d_Remote_pageShown_11 f_Remote_12 (by first | rfl | exact hk | exact hk2 | exact dm12 _ | assumption) rfl rfl ?_
  refine pg_goto (tgt := 28) h d_Remote_pageShown_14 rfl ?_
  first
    | exact pf_aret h d_Remote_pageShown_28 (Or.inr ⟨_, rfl⟩) (by simp [shnF, pgV, e7]) rfl
    | (refine pf_aret h d_Remote_pageShown_28 ?_ (by simp [shnF, e7]) rfl; cases fndF S w.2.2.1 (S 6 0 2) <;> simp [pgV])--end

theorem c_shown_some (w : pf_W) (ok : pf_ok w) (S : pf_S) (hw : 1 ≤ w.2.2.1 ∧ w.2.2.1 ≤ 4) {k : Nat} (hf : shnF S w.2.2.1 = some k) : pf_C w y_Remote_pageShown b_Remote_pageShown 1 (some (.object "PageReceiver$Page")) 1 22 [.ref (w.2.1 6 0)] S (some (.ref (w.2.1 14 k))) S := by
  have q := c_Remote_pageShown w ok S hw
  rw [hf] at q
  exact q
theorem c_shown_none (w : pf_W) (ok : pf_ok w) (S : pf_S) (hw : 1 ≤ w.2.2.1 ∧ w.2.2.1 ≤ 4) (hf : shnF S w.2.2.1 = none) : pf_C w y_Remote_pageShown b_Remote_pageShown 1 (some (.object "PageReceiver$Page")) 1 22 [.ref (w.2.1 6 0)] S (some .null) S := by
  have q := c_Remote_pageShown w ok S hw
  rw [hf] at q
  exact q
/-- Remote.want -/
def wntF (S : pf_S) (num : Int32) : pf_S := pf_st (pf_st (pf_st S 6 0 2 num) 14 12 0 0) 6 0 6 0

set_option maxRecDepth 100000 in
set_option maxHeartbeats 4000000 in
theorem c_Remote_want (w : pf_W) (ok : pf_ok w) (S : pf_S) (num : Int32) : pf_C w y_Remote_want b_Remote_want 2 none 0 0 [.ref (w.2.1 6 0), .int num] S (none) (wntF S num) := by
  refine pf_enter (by decide) (Nat.le_of_ble_eq_true rfl) (lv0 := [some (.ref (w.2.1 6 0)), some (.int num)]) rfl (fun κ h => ?_)
  refine pg_aload_n h d_Remote_want_0 rfl ?_
  refine pg_iload_n h d_Remote_want_1 rfl ?_
  refine pf_puti h ok d_Remote_want_2 fw_Remote_18 (by first | rfl | exact hk | exact hk2 | exact dm12 _ | assumption) rfl (Nat.le_of_ble_eq_true rfl) rfl ?_
  refine pg_aload_n h d_Remote_want_5 rfl ?_
  refine pf_get h ok d_Remote_want_6 f_Remote_12 (by first | rfl | exact hk | exact hk2 | exact dm12 _ | assumption) rfl rfl ?_
  refine pg_iconst (v := 0) h d_Remote_want_9 (by decide) ?_
  refine pf_putz 0 h ok d_Remote_want_10 fw_Remote_26 (by first | rfl | exact hk | exact hk2 | exact dm12 _ | assumption) rfl (Nat.le_of_ble_eq_true rfl) rfl ?_
  refine pg_aload_n h d_Remote_want_13 rfl ?_
  refine pg_iconst (v := 0) h d_Remote_want_14 (by decide) ?_
  refine pf_putz 0 h ok d_Remote_want_15 fw_Remote_53 (by first | rfl | exact hk | exact hk2 | exact dm12 _ | assumption) rfl (Nat.le_of_ble_eq_true rfl) rfl ?_
  exact pf_vret h d_Remote_want_18 rfl

/-- Remote.pressDigit -/
def dgV (S : pf_S) (d : Int32) : Int32 := if S 6 0 3 = 0 then (if d < 1 then 0 else if d ≤ 8 then 1 else 0) else 1
def dgT (S : pf_S) (d : Int32) : pf_S := if S 6 0 3 = 0 then (if d < 1 then S else if d ≤ 8 then pf_st (pf_st S 6 0 4 d) 6 0 3 1 else S) else if S 6 0 3 = 1 then pf_st (pf_st S 6 0 5 d) 6 0 3 2 else wntF (pf_st S 6 0 3 0) (256 * (S 6 0 4 - S 6 0 4 / 8 * 8) + 16 * S 6 0 5 + d)

set_option maxRecDepth 100000 in
set_option maxHeartbeats 4000000 in
theorem c_Remote_pressDigit (w : pf_W) (ok : pf_ok w) (S : pf_S) (d : Int32) : pf_C w y_Remote_pressDigit b_Remote_pressDigit 2 (some .boolean) 1 21 [.ref (w.2.1 6 0), .int d] S (some (.int (dgV S d))) (dgT S d) := by
  refine pf_enter (by decide) (Nat.le_of_ble_eq_true rfl) (lv0 := [some (.ref (w.2.1 6 0)), some (.int d)]) rfl (fun κ h => ?_)
  refine pg_aload_n h d_Remote_pressDigit_0 rfl ?_
  refine pf_get h ok d_Remote_pressDigit_1 f_Remote_36 (by first | rfl | exact hk | exact hk2 | exact dm12 _ | assumption) rfl rfl ?_
  by_cases c4_0 : S 6 0 3 = 0
  · refine pg_lookup (off := 28) (tgt := 32) h d_Remote_pressDigit_4 (by decide) (by rw [c4_0]; decide) rfl ?_
    refine pg_iload_n h d_Remote_pressDigit_32 rfl ?_
    refine pg_iconst (v := 1) h d_Remote_pressDigit_33 (by decide) ?_
    refine pg_icmp_lt (tgt := 43) h d_Remote_pressDigit_34 rfl (fun e34 => ?_) (fun e34 => ?_)
    · skip
      refine pg_iconst (v := 0) h d_Remote_pressDigit_43 (by decide) ?_
      exact pf_iret h d_Remote_pressDigit_44 rfl (by simp [dgV, *]) (by simp [dgT, *])
    refine pg_iload_n h d_Remote_pressDigit_37 rfl ?_
    refine pg_bipush (v := 8) h d_Remote_pressDigit_38 (by decide) ?_
    refine pg_icmp_le (tgt := 45) h d_Remote_pressDigit_40 rfl (fun e40 => ?_) (fun e40 => ?_)
    · skip
      refine pg_aload_n h d_Remote_pressDigit_45 rfl ?_
      refine pg_iload_n h d_Remote_pressDigit_46 rfl ?_
      refine pf_puti h ok d_Remote_pressDigit_47 fw_Remote_39 (by first | rfl | exact hk | exact hk2 | exact dm12 _ | assumption) rfl (Nat.le_of_ble_eq_true rfl) rfl ?_
      refine pg_aload_n h d_Remote_pressDigit_50 rfl ?_
      refine pg_iconst (v := 1) h d_Remote_pressDigit_51 (by decide) ?_
      refine pf_puti h ok d_Remote_pressDigit_52 fw_Remote_36 (by first | rfl | exact hk | exact hk2 | exact dm12 _ | assumption) rfl (Nat.le_of_ble_eq_true rfl) rfl ?_
      refine pg_iconst (v := 1) h d_Remote_pressDigit_55 (by decide) ?_
      exact pf_iret h d_Remote_pressDigit_56 rfl (by simp [dgV, *]) (by simp [dgT, *])
    refine pg_iconst (v := 0) h d_Remote_pressDigit_43 (by decide) ?_
    exact pf_iret h d_Remote_pressDigit_44 rfl (by simp [dgV, *]) (by simp [dgT, *])
  by_cases c4_1 : S 6 0 3 = 1
  · refine pg_lookup (off := 53) (tgt := 57) h d_Remote_pressDigit_4 (by decide) (by rw [c4_1]; decide) rfl ?_
    refine pg_aload_n h d_Remote_pressDigit_57 rfl ?_
    refine pg_iload_n h d_Remote_pressDigit_58 rfl ?_
    refine pf_puti h ok d_Remote_pressDigit_59 fw_Remote_42 (by first | rfl | exact hk | exact hk2 | exact dm12 _ | assumption) rfl (Nat.le_of_ble_eq_true rfl) rfl ?_
    refine pg_aload_n h d_Remote_pressDigit_62 rfl ?_
    refine pg_iconst (v := 2) h d_Remote_pressDigit_63 (by decide) ?_
    refine pf_puti h ok d_Remote_pressDigit_64 fw_Remote_36 (by first | rfl | exact hk | exact hk2 | exact dm12 _ | assumption) rfl (Nat.le_of_ble_eq_true rfl) rfl ?_
    refine pg_iconst (v := 1) h d_Remote_pressDigit_67 (by decide) ?_
    exact pf_iret h d_Remote_pressDigit_68 rfl (by simp [dgV, *]) (by simp [dgT, *])
  refine pg_lookup (off := 65) (tgt := 69) h d_Remote_pressDigit_4 (by decide) (by rw [show (#[(0, 28), (1, 53)] : Array (Int × Int)).toList = [(0, 28), (1, 53)] from rfl, lv_osw c4_0 (by decide), lv_osw c4_1 (by decide)]; rfl) rfl ?_
  refine pg_aload_n h d_Remote_pressDigit_69 rfl ?_
  refine pg_iconst (v := 0) h d_Remote_pressDigit_70 (by decide) ?_
  refine pf_puti h ok d_Remote_pressDigit_71 fw_Remote_36 (by first | rfl | exact hk | exact hk2 | exact dm12 _ | assumption) rfl (Nat.le_of_ble_eq_true rfl) rfl ?_
  refine pg_aload_n h d_Remote_pressDigit_74 rfl ?_
  refine pg_sipush (v := 256) h d_Remote_pressDigit_75 (by decide) ?_
  refine pg_aload_n h d_Remote_pressDigit_78 rfl ?_
  refine pf_get h ok d_Remote_pressDigit_79 f_Remote_39 (by first | rfl | exact hk | exact hk2 | exact dm12 _ | assumption) rfl rfl ?_
  refine pg_bipush (v := 8) h d_Remote_pressDigit_82 (by decide) ?_
  refine pg_irem h d_Remote_pressDigit_84 (by decide) ?_
  refine pg_imul h d_Remote_pressDigit_85 ?_
  refine pg_bipush (v := 16) h d_Remote_pressDigit_86 (by decide) ?_
  refine pg_aload_n h d_Remote_pressDigit_88 rfl ?_
  refine pf_get h ok d_Remote_pressDigit_89 f_Remote_42 (by first | rfl | exact hk | exact hk2 | exact dm12 _ | assumption) rfl rfl ?_
  refine pg_imul h d_Remote_pressDigit_92 ?_
  refine pg_iadd h d_Remote_pressDigit_93 ?_
  refine pg_iload_n h d_Remote_pressDigit_94 rfl ?_
  refine pg_iadd h d_Remote_pressDigit_95 ?_
  refine pf_cV0 h ok d_Remote_pressDigit_96 m_Remote_want l_Remote_45 (c_Remote_want w ok _ _) cn_Remote (by first | rfl | exact hk | exact hk2 | exact dm12 _ | assumption) rfl rfl rfl (Nat.le_of_ble_eq_true rfl) ⟨(Nat.le_of_ble_eq_true rfl), (Nat.le_of_ble_eq_true rfl)⟩ ⟨Nat.le_refl _, Nat.le_refl _⟩ ?_
  refine pg_iconst (v := 1) h d_Remote_pressDigit_99 (by decide) ?_
  exact pf_iret h d_Remote_pressDigit_100 rfl (by simp [dgV, *]) (by simp only [dgT, c4_0, c4_1, if_false]; rfl)

/-- Remote.turnHeld -/
def hldV (S : pf_S) (P : Nat) : Int32 := if nb (S 14 12 0) = 0 then (match fndF S P (S 6 0 2) with
  | none => 0
  | some _ => 1) else 1
def hldT (S : pf_S) (P : Nat) : pf_S := if nb (S 14 12 0) = 0 then (match fndF S P (S 6 0 2) with
  | none => S
  | some k => cpP S k 12) else pf_st S 14 12 0 0
theorem shnF_0 {S : pf_S} {P : Nat} (h : nb (S 14 12 0) = 0) : shnF S P = fndF S P (S 6 0 2) := if_pos h

set_option maxRecDepth 100000 in
set_option maxHeartbeats 4000000 in
theorem c_Remote_turnHeld (w : pf_W) (ok : pf_ok w) (S : pf_S) (hw : 1 ≤ w.2.2.1 ∧ w.2.2.1 ≤ 4) : pf_C w y_Remote_turnHeld b_Remote_turnHeld 2 (some .boolean) 2 61 [.ref (w.2.1 6 0)] S (some (.int (hldV S w.2.2.1))) (hldT S w.2.2.1) := by
  refine pf_enter (by decide) (Nat.le_of_ble_eq_true rfl) (lv0 := [some (.ref (w.2.1 6 0)), none]) rfl (fun κ h => ?_)
  cases hf : fndF S w.2.2.1 (S 6 0 2) with
  | none =>
    refine pg_aload_n h d_Remote_turnHeld_0 rfl ?_
    refine pf_get h ok d_Remote_turnHeld_1 f_Remote_12 (by first | rfl | exact hk | exact hk2 | exact dm12 _ | assumption) rfl rfl ?_
    refine pf_get h ok d_Remote_turnHeld_4 f_Remote_26 (by first | rfl | exact hk | exact hk2 | exact dm12 _ | assumption) rfl rfl ?_
    refine pg_if_eq (tgt := 20) h d_Remote_turnHeld_7 rfl (fun e7 => ?_) (fun e7 => ?_)
    · skip
      refine pg_aload_n h d_Remote_turnHeld_20 rfl ?_
      refine pf_cV h ok d_Remote_turnHeld_21 m_Remote_pageShown l_Remote_60 (c_shown_none w ok S hw ((shnF_0 e7).trans hf)) cn_Remote (by first | rfl | exact hk | exact hk2 | exact dm12 _ | assumption) rfl rfl rfl (Nat.le_of_ble_eq_true rfl) ⟨(Nat.le_of_ble_eq_true rfl), (Nat.le_of_ble_eq_true rfl)⟩ ⟨Nat.le_refl _, Nat.le_refl _⟩ ?_
      refine pg_astore_nN h d_Remote_turnHeld_24 (Nat.le_of_ble_eq_true rfl) rfl rfl ?_
      refine pg_aload_nN h d_Remote_turnHeld_25 rfl ?_
      refine pg_ifnonnullN h d_Remote_turnHeld_26 ?_
      refine pg_iconst (v := 0) h d_Remote_turnHeld_29 (by decide) ?_
      exact pf_iret h d_Remote_turnHeld_30 rfl (by simp [hldV, *]) (by simp [hldT, *])
    refine pg_aload_n h d_Remote_turnHeld_10 rfl ?_
    refine pf_get h ok d_Remote_turnHeld_11 f_Remote_12 (by first | rfl | exact hk | exact hk2 | exact dm12 _ | assumption) rfl rfl ?_
    refine pg_iconst (v := 0) h d_Remote_turnHeld_14 (by decide) ?_
    refine pf_putz 0 h ok d_Remote_turnHeld_15 fw_Remote_26 (by first | rfl | exact hk | exact hk2 | exact dm12 _ | assumption) rfl (Nat.le_of_ble_eq_true rfl) rfl ?_
    refine pg_iconst (v := 1) h d_Remote_turnHeld_18 (by decide) ?_
    exact pf_iret h d_Remote_turnHeld_19 rfl (by simp [hldV, *]) (by simp [hldT, *])
  | some k =>
    have hk : pf_dm w.2.2.1 14 k = true := dmK (fndF_some hf).2.1
    have hne : k ≠ 12 := by have := (fndF_some hf).2.1; omega
    refine pg_aload_n h d_Remote_turnHeld_0 rfl ?_
    refine pf_get h ok d_Remote_turnHeld_1 f_Remote_12 (by first | rfl | exact hk | exact hk2 | exact dm12 _ | assumption) rfl rfl ?_
    refine pf_get h ok d_Remote_turnHeld_4 f_Remote_26 (by first | rfl | exact hk | exact hk2 | exact dm12 _ | assumption) rfl rfl ?_
    refine pg_if_eq (tgt := 20) h d_Remote_turnHeld_7 rfl (fun e7 => ?_) (fun e7 => ?_)
    · skip
      refine pg_aload_n h d_Remote_turnHeld_20 rfl ?_
      refine pf_cV h ok d_Remote_turnHeld_21 m_Remote_pageShown l_Remote_60 (c_shown_some w ok S hw ((shnF_0 e7).trans hf)) cn_Remote (by first | rfl | exact hk | exact hk2 | exact dm12 _ | assumption) rfl rfl rfl (Nat.le_of_ble_eq_true rfl) ⟨(Nat.le_of_ble_eq_true rfl), (Nat.le_of_ble_eq_true rfl)⟩ ⟨Nat.le_refl _, Nat.le_refl _⟩ ?_
      refine pg_astore_n h d_Remote_turnHeld_24 (Nat.le_of_ble_eq_true rfl) rfl rfl ?_
      refine pg_aload_n h d_Remote_turnHeld_25 rfl ?_
      refine pg_ifnonnull (tgt := 31) h d_Remote_turnHeld_26 rfl ?_
      refine pg_aload_n h d_Remote_turnHeld_31 rfl ?_
      refine pf_get h ok d_Remote_turnHeld_32 f_Remote_12 (by first | rfl | exact hk | exact hk2 | exact dm12 _ | assumption) rfl rfl ?_
      refine pg_aload_n h d_Remote_turnHeld_35 rfl ?_
      refine pf_cV0 h ok d_Remote_turnHeld_36 m_Page_copyFrom l_Remote_68 (c_Page_copyFrom w ok S 12 (dm12 _) k hk hne) cn_Page (by first | rfl | exact hk | exact hk2 | exact dm12 _ | assumption) rfl rfl rfl (Nat.le_of_ble_eq_true rfl) ⟨(Nat.le_of_ble_eq_true rfl), (Nat.le_of_ble_eq_true rfl)⟩ ⟨Nat.le_refl _, Nat.le_refl _⟩ ?_
      refine pg_iconst (v := 1) h d_Remote_turnHeld_39 (by decide) ?_
      exact pf_iret h d_Remote_turnHeld_40 rfl (by simp [hldV, *]) (by simp [hldT, *])
    refine pg_aload_n h d_Remote_turnHeld_10 rfl ?_
    refine pf_get h ok d_Remote_turnHeld_11 f_Remote_12 (by first | rfl | exact hk | exact hk2 | exact dm12 _ | assumption) rfl rfl ?_
    refine pg_iconst (v := 0) h d_Remote_turnHeld_14 (by decide) ?_
    refine pf_putz 0 h ok d_Remote_turnHeld_15 fw_Remote_26 (by first | rfl | exact hk | exact hk2 | exact dm12 _ | assumption) rfl (Nat.le_of_ble_eq_true rfl) rfl ?_
    refine pg_iconst (v := 1) h d_Remote_turnHeld_18 (by decide) ?_
    exact pf_iret h d_Remote_turnHeld_19 rfl (by simp [hldV, *]) (by simp [hldT, *])

/-- Remote.followLink -/
def flwV (S : pf_S) (P j : Nat) : Int32 := match shnF S P with
  | none => 0
  | some k => if S 17 k j = -1 then 0 else 1
def flwT (S : pf_S) (P j : Nat) : pf_S := match shnF S P with
  | none => S
  | some k => if S 17 k j = -1 then S else wntF S (S 17 k j)

set_option maxRecDepth 100000 in
set_option maxHeartbeats 4000000 in
theorem c_Remote_followLink (w : pf_W) (ok : pf_ok w) (S : pf_S) (hw : 1 ≤ w.2.2.1 ∧ w.2.2.1 ≤ 4) (j : Nat) (hj : j < 4) : pf_C w y_Remote_followLink b_Remote_followLink 3 (some .boolean) 2 42 [.ref (w.2.1 6 0), .int (nI j)] S (some (.int (flwV S w.2.2.1 j))) (flwT S w.2.2.1 j) := by
  refine pf_enter (by decide) (Nat.le_of_ble_eq_true rfl) (lv0 := [some (.ref (w.2.1 6 0)), some (.int (nI j)), none]) rfl (fun κ h => ?_)
  cases hf : shnF S w.2.2.1 with
  | none =>
    refine pg_aload_n h d_Remote_followLink_0 rfl ?_
    refine pf_cV h ok d_Remote_followLink_1 m_Remote_pageShown l_Remote_60 (c_shown_none w ok S hw hf) cn_Remote (by first | rfl | exact hk | exact hk2 | exact dm12 _ | assumption) rfl rfl rfl (Nat.le_of_ble_eq_true rfl) ⟨(Nat.le_of_ble_eq_true rfl), (Nat.le_of_ble_eq_true rfl)⟩ ⟨Nat.le_refl _, Nat.le_refl _⟩ ?_
    refine pg_astore_nN h d_Remote_followLink_4 (Nat.le_of_ble_eq_true rfl) rfl rfl ?_
    refine pg_aload_nN h d_Remote_followLink_5 rfl ?_
    refine pg_ifnullN (tgt := 18) h d_Remote_followLink_6 rfl ?_
    refine pg_iconst (v := 0) h d_Remote_followLink_18 (by decide) ?_
    exact pf_iret h d_Remote_followLink_19 rfl (by simp [flwV, *]) (by simp [flwT, *])
  | some k =>
    have hk : pf_dm w.2.2.1 14 k = true := shnF_dm hf
    refine pg_aload_n h d_Remote_followLink_0 rfl ?_
    refine pf_cV h ok d_Remote_followLink_1 m_Remote_pageShown l_Remote_60 (c_shown_some w ok S hw hf) cn_Remote (by first | rfl | exact hk | exact hk2 | exact dm12 _ | assumption) rfl rfl rfl (Nat.le_of_ble_eq_true rfl) ⟨(Nat.le_of_ble_eq_true rfl), (Nat.le_of_ble_eq_true rfl)⟩ ⟨Nat.le_refl _, Nat.le_refl _⟩ ?_
    refine pg_astore_n h d_Remote_followLink_4 (Nat.le_of_ble_eq_true rfl) rfl rfl ?_
    refine pg_aload_n h d_Remote_followLink_5 rfl ?_
    refine pg_ifnull h d_Remote_followLink_6 ?_
    refine pg_aload_n h d_Remote_followLink_9 rfl ?_
    refine pg_iload_n h d_Remote_followLink_10 rfl ?_
    refine pf_cV h ok d_Remote_followLink_11 m_Page_link l_Remote_64 (c_Page_link w ok S k hk j hj) cn_Page (by first | rfl | exact hk | exact hk2 | exact dm12 _ | assumption) rfl rfl rfl (Nat.le_of_ble_eq_true rfl) ⟨(Nat.le_of_ble_eq_true rfl), (Nat.le_of_ble_eq_true rfl)⟩ ⟨Nat.le_refl _, Nat.le_refl _⟩ ?_
    refine pg_iconst (v := (-1)) h d_Remote_followLink_14 (by decide) ?_
    refine pg_icmp_ne (tgt := 20) h d_Remote_followLink_15 rfl (fun e15 => ?_) (fun e15 => ?_)
    · skip
      refine pg_aload_n h d_Remote_followLink_20 rfl ?_
      refine pg_aload_n h d_Remote_followLink_21 rfl ?_
      refine pg_iload_n h d_Remote_followLink_22 rfl ?_
      refine pf_cV h ok d_Remote_followLink_23 m_Page_link l_Remote_64 (c_Page_link w ok S k hk j hj) cn_Page (by first | rfl | exact hk | exact hk2 | exact dm12 _ | assumption) rfl rfl rfl (Nat.le_of_ble_eq_true rfl) ⟨(Nat.le_of_ble_eq_true rfl), (Nat.le_of_ble_eq_true rfl)⟩ ⟨Nat.le_refl _, Nat.le_refl _⟩ ?_
      refine pf_cV0 h ok d_Remote_followLink_26 m_Remote_want l_Remote_45 (c_Remote_want w ok S _) cn_Remote (by first | rfl | exact hk | exact hk2 | exact dm12 _ | assumption) rfl rfl rfl (Nat.le_of_ble_eq_true rfl) ⟨(Nat.le_of_ble_eq_true rfl), (Nat.le_of_ble_eq_true rfl)⟩ ⟨Nat.le_refl _, Nat.le_refl _⟩ ?_
      refine pg_iconst (v := 1) h d_Remote_followLink_29 (by decide) ?_
      exact pf_iret h d_Remote_followLink_30 rfl (by simp [flwV, *]) (by simp [flwT, *])
    refine pg_iconst (v := 0) h d_Remote_followLink_18 (by decide) ?_
    exact pf_iret h d_Remote_followLink_19 rfl (by simp [flwV, *]) (by simp [flwT, *])

theorem pf_st_same (S : pf_S) (kd ix k : Nat) (v v2 : Int32) : pf_st (pf_st S kd ix k v) kd ix k v2 = pf_st S kd ix k v2 := by
  funext a b c
  simp only [pf_st_at]
  split <;> rfl
/-- Remote.pressCommand -/
def cmdV (S : pf_S) (P kk : Nat) : Int32 := if kk = 14 then hldV S P else if kk = 15 then 1 else flwV S P (kk - 10)
def cmdT (S : pf_S) (P kk : Nat) : pf_S := if kk = 14 then hldT (pf_st S 6 0 3 0) P else if kk = 15 then pf_st (pf_st S 6 0 3 0) 6 0 6 (if nb (S 6 0 6) = 0 then 1 else 0) else flwT (pf_st S 6 0 3 0) P (kk - 10)

set_option maxRecDepth 100000 in
set_option maxHeartbeats 4000000 in
theorem c_Remote_pressCommand (w : pf_W) (ok : pf_ok w) (S : pf_S) (hw : 1 ≤ w.2.2.1 ∧ w.2.2.1 ≤ 4) (kk : Nat) (h10 : 10 ≤ kk) (h15 : kk ≤ 15) : pf_C w y_Remote_pressCommand b_Remote_pressCommand 2 (some .boolean) 3 82 [.ref (w.2.1 6 0), .int (nI kk)] S (some (.int (cmdV (pf_st S 6 0 3 0) w.2.2.1 kk))) (cmdT S w.2.2.1 kk) := by
  refine pf_enter (by decide) (Nat.le_of_ble_eq_true rfl) (lv0 := [some (.ref (w.2.1 6 0)), some (.int (nI kk))]) rfl (fun κ h => ?_)
  by_cases h14 : kk = 14
  · subst h14
    refine pg_aload_n h d_Remote_pressCommand_0 rfl ?_
    refine pg_iconst (v := 0) h d_Remote_pressCommand_1 (by decide) ?_
    refine pf_puti h ok d_Remote_pressCommand_2 fw_Remote_36 (by first | rfl | exact hk | exact hk2 | exact dm12 _ | assumption) rfl (Nat.le_of_ble_eq_true rfl) rfl ?_
    refine pg_iload_n h d_Remote_pressCommand_5 rfl ?_
    refine pg_bipush (v := 14) h d_Remote_pressCommand_6 (by decide) ?_
    refine pg_icmp_ne (tgt := 16) h d_Remote_pressCommand_8 rfl (fun e8 => absurd e8 (fun q => q (by decide))) (fun e8 => ?_)
    refine pg_aload_n h d_Remote_pressCommand_11 rfl ?_
    refine pf_cV h ok d_Remote_pressCommand_12 m_Remote_turnHeld l_Remote_49 (c_Remote_turnHeld w ok _ hw) cn_Remote (by first | rfl | exact hk | exact hk2 | exact dm12 _ | assumption) rfl rfl rfl (Nat.le_of_ble_eq_true rfl) ⟨(Nat.le_of_ble_eq_true rfl), (Nat.le_of_ble_eq_true rfl)⟩ ⟨Nat.le_refl _, Nat.le_refl _⟩ ?_
    exact pf_iret h d_Remote_pressCommand_15 (by unfold hldV; split <;> (first | rfl | (split <;> rfl))) rfl rfl--end
  by_cases h15' : kk = 15
  · subst h15'
    refine pg_aload_n h d_Remote_pressCommand_0 rfl ?_
    refine pg_iconst (v := 0) h d_Remote_pressCommand_1 (by decide) ?_
    refine pf_puti h ok d_Remote_pressCommand_2 fw_Remote_36 (by first | rfl | exact hk | exact hk2 | exact dm12 _ | assumption) rfl (Nat.le_of_ble_eq_true rfl) rfl ?_
    refine pg_iload_n h d_Remote_pressCommand_5 rfl ?_
    refine pg_bipush (v := 14) h d_Remote_pressCommand_6 (by decide) ?_
    refine pg_icmp_ne (tgt := 16) h d_Remote_pressCommand_8 rfl (fun e8 => ?_) (fun e8 => absurd e8 (by decide))
    refine pg_iload_n h d_Remote_pressCommand_16 rfl ?_
    refine pg_bipush (v := 15) h d_Remote_pressCommand_17 (by decide) ?_
    refine pg_icmp_ne (tgt := 40) h d_Remote_pressCommand_19 rfl (fun e19 => absurd e19 (fun q => q (by decide))) (fun e19 => ?_)
    refine pg_aload_n h d_Remote_pressCommand_22 rfl ?_
    refine pg_aload_n h d_Remote_pressCommand_23 rfl ?_
    refine pf_get h ok d_Remote_pressCommand_24 f_Remote_53 (by first | rfl | exact hk | exact hk2 | exact dm12 _ | assumption) rfl rfl ?_
    refine pg_if_ne (tgt := 34) h d_Remote_pressCommand_27 rfl (fun e27 => ?_) (fun e27 => ?_)
    · skip
      refine pg_iconst (v := 0) h d_Remote_pressCommand_34 (by decide) ?_
      refine pf_putz 0 h ok d_Remote_pressCommand_35 fw_Remote_53 (by first | rfl | exact hk | exact hk2 | exact dm12 _ | assumption) rfl (Nat.le_of_ble_eq_true rfl) rfl ?_
      refine pg_iconst (v := 1) h d_Remote_pressCommand_38 (by decide) ?_
      exact pf_iret h d_Remote_pressCommand_39 rfl rfl (by simp [cmdT, pf_st_at] at *; simp [*])
    refine pg_iconst (v := 1) h d_Remote_pressCommand_30 (by decide) ?_
    refine pg_goto (tgt := 35) h d_Remote_pressCommand_31 rfl ?_
    refine pf_putz 1 h ok d_Remote_pressCommand_35 fw_Remote_53 (by first | rfl | exact hk | exact hk2 | exact dm12 _ | assumption) rfl (Nat.le_of_ble_eq_true rfl) rfl ?_
    refine pg_iconst (v := 1) h d_Remote_pressCommand_38 (by decide) ?_
    exact pf_iret h d_Remote_pressCommand_39 rfl rfl (by simp [cmdT, pf_st_at] at *; simp [*])
  have hj : kk - 10 < 4 := by omega
  refine pg_aload_n h d_Remote_pressCommand_0 rfl ?_
  refine pg_iconst (v := 0) h d_Remote_pressCommand_1 (by decide) ?_
  refine pf_puti h ok d_Remote_pressCommand_2 fw_Remote_36 (by first | rfl | exact hk | exact hk2 | exact dm12 _ | assumption) rfl (Nat.le_of_ble_eq_true rfl) rfl ?_
  refine pg_iload_n h d_Remote_pressCommand_5 rfl ?_
  refine pg_bipush (v := 14) h d_Remote_pressCommand_6 (by decide) ?_
  refine pg_icmp_ne (tgt := 16) h d_Remote_pressCommand_8 rfl (fun e8 => ?_) (fun e8 => absurd e8 (fun q => h14 ((nI_eq (by omega) (by decide)).mp q)))
  refine pg_iload_n h d_Remote_pressCommand_16 rfl ?_
  refine pg_bipush (v := 15) h d_Remote_pressCommand_17 (by decide) ?_
  refine pg_icmp_ne (tgt := 40) h d_Remote_pressCommand_19 rfl (fun e19 => ?_) (fun e19 => absurd e19 (fun q => h15' ((nI_eq (by omega) (by decide)).mp q)))
  refine pg_aload_n h d_Remote_pressCommand_40 rfl ?_
  refine pg_iload_n h d_Remote_pressCommand_41 rfl ?_
  refine pg_bipush (v := 10) h d_Remote_pressCommand_42 (by decide) ?_
  refine pg_isub h d_Remote_pressCommand_44 ?_
  rw [show nI kk - 10 = nI (kk - 10) from pk_sub h10]
  refine pf_cV h ok d_Remote_pressCommand_45 m_Remote_followLink l_Remote_56 (c_Remote_followLink w ok _ hw (kk - 10) hj) cn_Remote (by first | rfl | exact hk | exact hk2 | exact dm12 _ | assumption) rfl rfl rfl (Nat.le_of_ble_eq_true rfl) ⟨(Nat.le_of_ble_eq_true rfl), (Nat.le_of_ble_eq_true rfl)⟩ ⟨Nat.le_refl _, Nat.le_refl _⟩ ?_
  exact pf_iret h d_Remote_pressCommand_48 (by unfold flwV; split <;> (first | rfl | (split <;> rfl))) (by simp [cmdV, h14, h15']) (by simp [cmdT, h14, h15'])--end

set_option maxRecDepth 100000 in
set_option maxHeartbeats 4000000 in
theorem c_Recv_reset (w : pf_W) (ok : pf_ok w) (S : pf_S)  : pf_C w y_Recv_reset b_Recv_reset 1 (some .int) 1 21 [.ref (w.2.1 0 0)] S (some (.int (S 2 0 2))) (pf_st S 2 0 2 0) := by
  refine pf_enter (by decide) (Nat.le_of_ble_eq_true rfl) (lv0 := [some (.ref (w.2.1 0 0))]) rfl (fun κ h => ?_)
  refine pg_aload_n h d_Recv_reset_0 rfl ?_
  refine pf_get h ok d_Recv_reset_1 f_Recv_18 (by first | rfl | exact hk | exact hk2 | exact dm12 _ | assumption) rfl rfl ?_
  refine pf_cV h ok d_Recv_reset_4 m_Packet_empty l_Recv_81 (c_Packet_empty w ok S) cn_Packet (by first | rfl | exact hk | exact hk2 | exact dm12 _ | assumption) rfl rfl rfl (Nat.le_of_ble_eq_true rfl) ⟨(Nat.le_of_ble_eq_true rfl), (Nat.le_of_ble_eq_true rfl)⟩ ⟨Nat.le_refl _, Nat.le_refl _⟩ ?_
  exact pf_iret h d_Recv_reset_7 rfl (by first | rfl | simp [*]) rfl

theorem nb_i (c : Prop) [Decidable c] : nb (if c then 1 else 0) = if c then 1 else 0 := by split <;> rfl
/-- tick -/
def tikV (S : pf_S) : Int32 := if nb (S 12 0 3) = 0 then 1 else 0

set_option maxRecDepth 100000 in
set_option maxHeartbeats 4000000 in
theorem c_Recv_tick (w : pf_W) (ok : pf_ok w) (S : pf_S)  : pf_C w y_Recv_tick b_Recv_tick 1 (some .boolean) 0 0 [.ref (w.2.1 0 0)] S (some (.int (tikV S))) (pf_st S 12 0 3 (tikV S)) := by
  refine pf_enter (by decide) (Nat.le_of_ble_eq_true rfl) (lv0 := [some (.ref (w.2.1 0 0))]) rfl (fun κ h => ?_)
  refine pg_aload_n h d_Recv_tick_0 rfl ?_
  refine pf_get h ok d_Recv_tick_1 f_Recv_66 (by first | rfl | exact hk | exact hk2 | exact dm12 _ | assumption) rfl rfl ?_
  refine pg_aload_n h d_Recv_tick_4 rfl ?_
  refine pf_get h ok d_Recv_tick_5 f_Recv_66 (by first | rfl | exact hk | exact hk2 | exact dm12 _ | assumption) rfl rfl ?_
  refine pf_get h ok d_Recv_tick_8 f_Recv_96 (by first | rfl | exact hk | exact hk2 | exact dm12 _ | assumption) rfl rfl ?_
  refine pg_if_ne (tgt := 18) h d_Recv_tick_11 rfl (fun e11 => ?_) (fun e11 => ?_)
  · skip
    refine pg_iconst (v := 0) h d_Recv_tick_18 (by decide) ?_
    refine pf_putz 0 h ok d_Recv_tick_19 fw_Recv_96 (by first | rfl | exact hk | exact hk2 | exact dm12 _ | assumption) rfl (Nat.le_of_ble_eq_true rfl) rfl ?_
    refine pg_aload_n h d_Recv_tick_22 rfl ?_
    refine pf_get h ok d_Recv_tick_23 f_Recv_66 (by first | rfl | exact hk | exact hk2 | exact dm12 _ | assumption) rfl rfl ?_
    refine pf_get h ok d_Recv_tick_26 f_Recv_96 (by first | rfl | exact hk | exact hk2 | exact dm12 _ | assumption) rfl rfl ?_
    exact pf_iret h d_Recv_tick_29 (nb_narrow _) (by simp [tikV, pf_st_at, e11, nb_0, nb_1]) (by simp [tikV, e11])--end
  refine pg_iconst (v := 1) h d_Recv_tick_14 (by decide) ?_
  refine pg_goto (tgt := 19) h d_Recv_tick_15 rfl ?_
  refine pf_putz 1 h ok d_Recv_tick_19 fw_Recv_96 (by first | rfl | exact hk | exact hk2 | exact dm12 _ | assumption) rfl (Nat.le_of_ble_eq_true rfl) rfl ?_
  refine pg_aload_n h d_Recv_tick_22 rfl ?_
  refine pf_get h ok d_Recv_tick_23 f_Recv_66 (by first | rfl | exact hk | exact hk2 | exact dm12 _ | assumption) rfl rfl ?_
  refine pf_get h ok d_Recv_tick_26 f_Recv_96 (by first | rfl | exact hk | exact hk2 | exact dm12 _ | assumption) rfl rfl ?_
  exact pf_iret h d_Recv_tick_29 (nb_narrow _) (by simp [tikV, pf_st_at, e11, nb_0, nb_1]) (by simp [tikV, e11])--end

def shwV (S : pf_S) (P : Nat) : Int32 := match shnF S P with
  | none => -1
  | some k => S 14 k 1

set_option maxRecDepth 100000 in
set_option maxHeartbeats 4000000 in
theorem c_Recv_shown (w : pf_W) (ok : pf_ok w) (S : pf_S) (hw : 1 ≤ w.2.2.1 ∧ w.2.2.1 ≤ 4) : pf_C w y_Recv_shown b_Recv_shown 2 (some .int) 2 42 [.ref (w.2.1 0 0)] S (some (.int (shwV S w.2.2.1))) (S) := by
  refine pf_enter (by decide) (Nat.le_of_ble_eq_true rfl) (lv0 := [some (.ref (w.2.1 0 0)), none]) rfl (fun κ h => ?_)
  cases hf : shnF S w.2.2.1 with
  | none =>
    refine pg_aload_n h d_Recv_shown_0 rfl ?_
    refine pf_get h ok d_Recv_shown_1 f_Recv_45 (by first | rfl | exact hk | exact hk2 | exact dm12 _ | assumption) rfl rfl ?_
    refine pf_cV h ok d_Recv_shown_4 m_Remote_pageShown l_Recv_100 (c_shown_none w ok S hw hf) cn_Remote (by first | rfl | exact hk | exact hk2 | exact dm12 _ | assumption) rfl rfl rfl (Nat.le_of_ble_eq_true rfl) ⟨(Nat.le_of_ble_eq_true rfl), (Nat.le_of_ble_eq_true rfl)⟩ ⟨Nat.le_refl _, Nat.le_refl _⟩ ?_
    refine pg_astore_nN h d_Recv_shown_7 (Nat.le_of_ble_eq_true rfl) rfl rfl ?_
    refine pg_aload_nN h d_Recv_shown_8 rfl ?_
    refine pg_ifnonnullN h d_Recv_shown_9 ?_
    refine pg_iconst (v := (-1)) h d_Recv_shown_12 (by decide) ?_
    refine pg_goto (tgt := 20) h d_Recv_shown_13 rfl ?_
    exact pf_iret h d_Recv_shown_20 rfl (by simp [shwV, *]) rfl
  | some k =>
    have hk : pf_dm w.2.2.1 14 k = true := shnF_dm hf
    refine pg_aload_n h d_Recv_shown_0 rfl ?_
    refine pf_get h ok d_Recv_shown_1 f_Recv_45 (by first | rfl | exact hk | exact hk2 | exact dm12 _ | assumption) rfl rfl ?_
    refine pf_cV h ok d_Recv_shown_4 m_Remote_pageShown l_Recv_100 (c_shown_some w ok S hw hf) cn_Remote (by first | rfl | exact hk | exact hk2 | exact dm12 _ | assumption) rfl rfl rfl (Nat.le_of_ble_eq_true rfl) ⟨(Nat.le_of_ble_eq_true rfl), (Nat.le_of_ble_eq_true rfl)⟩ ⟨Nat.le_refl _, Nat.le_refl _⟩ ?_
    refine pg_astore_n h d_Recv_shown_7 (Nat.le_of_ble_eq_true rfl) rfl rfl ?_
    refine pg_aload_n h d_Recv_shown_8 rfl ?_
    refine pg_ifnonnull (tgt := 16) h d_Recv_shown_9 rfl ?_
    refine pg_aload_n h d_Recv_shown_16 rfl ?_
    refine pf_get h ok d_Recv_shown_17 f_Recv_104 (by first | rfl | exact hk | exact hk2 | exact dm12 _ | assumption) rfl rfl ?_
    exact pf_iret h d_Recv_shown_20 rfl (by simp [shwV, *]) rfl

def vwrV (S : pf_S) (x : Int32) : Int32 := if x = 0 then S 6 0 2 else if x = 1 then S 6 0 3 else if x = 2 then nb (S 14 12 0) else if x = 3 then nb (S 6 0 6) else -1
theorem nb_ne {x : Int32} (h : ¬ nb x = 0) : nb x = 1 := by
  unfold nb at *
  split <;> simp_all

set_option maxRecDepth 100000 in
set_option maxHeartbeats 4000000 in
theorem c_Recv_viewer (w : pf_W) (ok : pf_ok w) (S : pf_S) (x : Int32) : pf_C w y_Recv_viewer b_Recv_viewer 2 (some .int) 0 0 [.ref (w.2.1 0 0), .int x] S (some (.int (vwrV S x))) (S) := by
  refine pf_enter (by decide) (Nat.le_of_ble_eq_true rfl) (lv0 := [some (.ref (w.2.1 0 0)), some (.int x)]) rfl (fun κ h => ?_)
  refine pg_iload_n h d_Recv_viewer_0 rfl ?_
  by_cases c1_0 : x = 0
  · refine pg_tableIn (off := 31) (tgt := 32) h d_Recv_viewer_1 (by rw [c1_0]; decide) (by rw [c1_0]; decide) (by rw [c1_0]; rfl) rfl ?_
    refine pg_aload_n h d_Recv_viewer_32 rfl ?_
    refine pf_get h ok d_Recv_viewer_33 f_Recv_45 (by first | rfl | exact hk | exact hk2 | exact dm12 _ | assumption) rfl rfl ?_
    refine pf_get h ok d_Recv_viewer_36 f_Recv_109 (by first | rfl | exact hk | exact hk2 | exact dm12 _ | assumption) rfl rfl ?_
    exact pf_iret h d_Recv_viewer_39 rfl (by simp [vwrV, *]) rfl
  by_cases c1_1 : x = 1
  · refine pg_tableIn (off := 39) (tgt := 40) h d_Recv_viewer_1 (by rw [c1_1]; decide) (by rw [c1_1]; decide) (by rw [c1_1]; rfl) rfl ?_
    refine pg_aload_n h d_Recv_viewer_40 rfl ?_
    refine pf_get h ok d_Recv_viewer_41 f_Recv_45 (by first | rfl | exact hk | exact hk2 | exact dm12 _ | assumption) rfl rfl ?_
    refine pf_get h ok d_Recv_viewer_44 f_Recv_112 (by first | rfl | exact hk | exact hk2 | exact dm12 _ | assumption) rfl rfl ?_
    exact pf_iret h d_Recv_viewer_47 rfl (by simp [vwrV, *]) rfl
  by_cases c1_2 : x = 2
  · refine pg_tableIn (off := 47) (tgt := 48) h d_Recv_viewer_1 (by rw [c1_2]; decide) (by rw [c1_2]; decide) (by rw [c1_2]; rfl) rfl ?_
    refine pg_aload_n h d_Recv_viewer_48 rfl ?_
    refine pf_get h ok d_Recv_viewer_49 f_Recv_45 (by first | rfl | exact hk | exact hk2 | exact dm12 _ | assumption) rfl rfl ?_
    refine pf_get h ok d_Recv_viewer_52 f_Recv_115 (by first | rfl | exact hk | exact hk2 | exact dm12 _ | assumption) rfl rfl ?_
    refine pf_get h ok d_Recv_viewer_55 f_Recv_119 (by first | rfl | exact hk | exact hk2 | exact dm12 _ | assumption) rfl rfl ?_
    refine pg_if_eq (tgt := 65) h d_Recv_viewer_58 rfl (fun e58 => ?_) (fun e58 => ?_)
    · skip
      refine pg_iconst (v := 0) h d_Recv_viewer_65 (by decide) ?_
      exact pf_iret h d_Recv_viewer_66 rfl (by first | simp [vwrV, c1_2, nb_ne e58] | simp [vwrV, c1_2, e58]) rfl
    refine pg_iconst (v := 1) h d_Recv_viewer_61 (by decide) ?_
    refine pg_goto (tgt := 66) h d_Recv_viewer_62 rfl ?_
    exact pf_iret h d_Recv_viewer_66 rfl (by first | simp [vwrV, c1_2, nb_ne e58] | simp [vwrV, c1_2, e58]) rfl
  by_cases c1_3 : x = 3
  · refine pg_tableIn (off := 66) (tgt := 67) h d_Recv_viewer_1 (by rw [c1_3]; decide) (by rw [c1_3]; decide) (by rw [c1_3]; rfl) rfl ?_
    refine pg_aload_n h d_Recv_viewer_67 rfl ?_
    refine pf_get h ok d_Recv_viewer_68 f_Recv_45 (by first | rfl | exact hk | exact hk2 | exact dm12 _ | assumption) rfl rfl ?_
    refine pf_get h ok d_Recv_viewer_71 f_Recv_122 (by first | rfl | exact hk | exact hk2 | exact dm12 _ | assumption) rfl rfl ?_
    refine pg_if_eq (tgt := 81) h d_Recv_viewer_74 rfl (fun e74 => ?_) (fun e74 => ?_)
    · skip
      refine pg_iconst (v := 0) h d_Recv_viewer_81 (by decide) ?_
      exact pf_iret h d_Recv_viewer_82 rfl (by first | simp [vwrV, c1_3, nb_ne e74] | simp [vwrV, c1_3, e74]) rfl
    refine pg_iconst (v := 1) h d_Recv_viewer_77 (by decide) ?_
    refine pg_goto (tgt := 82) h d_Recv_viewer_78 rfl ?_
    exact pf_iret h d_Recv_viewer_82 rfl (by first | simp [vwrV, c1_3, nb_ne e74] | simp [vwrV, c1_3, e74]) rfl
  have o1 : ∀ j : Nat, j ≤ 3 → ¬ x = nI j := by
    intro j hj
    rcases (show j = 0 ∨ j = 1 ∨ j = 2 ∨ j = 3 by omega) with rfl | rfl | rfl | rfl
    · exact c1_0
    · exact c1_1
    · exact c1_2
    · exact c1_3
  refine pg_tableOut (tgt := 83) h d_Recv_viewer_1 (sw_out 3 (by decide) o1) rfl ?_
  refine pg_iconst (v := (-1)) h d_Recv_viewer_83 (by decide) ?_
  exact pf_iret h d_Recv_viewer_84 rfl (by simp [vwrV, *]) rfl

def kptV (S : pf_S) (P : Nat) (x t : Int32) : Int32 := match pinF S P x with
  | none => -1
  | some k => tellV S k t
theorem c_pin_some (w : pf_W) (ok : pf_ok w) (S : pf_S) (hw : 1 ≤ w.2.2.1 ∧ w.2.2.1 ≤ 4) (x : Int32) {k : Nat} (hf : pinF S w.2.2.1 x = some k) : pf_C w y_Shelf_pageIn b_Shelf_pageIn 2 (some (.object "PageReceiver$Page")) 0 0 [.ref (w.2.1 4 0), .int x] S (some (.ref (w.2.1 14 k))) S := by
  have q := c_Shelf_pageIn w ok S hw x
  rw [hf] at q
  exact q
theorem c_pin_none (w : pf_W) (ok : pf_ok w) (S : pf_S) (hw : 1 ≤ w.2.2.1 ∧ w.2.2.1 ≤ 4) (x : Int32) (hf : pinF S w.2.2.1 x = none) : pf_C w y_Shelf_pageIn b_Shelf_pageIn 2 (some (.object "PageReceiver$Page")) 0 0 [.ref (w.2.1 4 0), .int x] S (some .null) S := by
  have q := c_Shelf_pageIn w ok S hw x
  rw [hf] at q
  exact q

set_option maxRecDepth 100000 in
set_option maxHeartbeats 4000000 in
theorem c_Recv_kept (w : pf_W) (ok : pf_ok w) (S : pf_S) (hw : 1 ≤ w.2.2.1 ∧ w.2.2.1 ≤ 4) (x t : Int32) : pf_C w y_Recv_kept b_Recv_kept 4 (some .int) 2 42 [.ref (w.2.1 0 0), .int x, .int t] S (some (.int (kptV S w.2.2.1 x t))) (S) := by
  refine pf_enter (by decide) (Nat.le_of_ble_eq_true rfl) (lv0 := [some (.ref (w.2.1 0 0)), some (.int x), some (.int t), none]) rfl (fun κ h => ?_)
  cases hf : pinF S w.2.2.1 x with
  | none =>
    refine pg_aload_n h d_Recv_kept_0 rfl ?_
    refine pf_get h ok d_Recv_kept_1 f_Recv_36 (by first | rfl | exact hk | exact hk2 | exact dm12 _ | assumption) rfl rfl ?_
    refine pg_iload_n h d_Recv_kept_4 rfl ?_
    refine pf_cV h ok d_Recv_kept_5 m_Shelf_pageIn l_Recv_125 (c_pin_none w ok S hw x hf) cn_Shelf (by first | rfl | exact hk | exact hk2 | exact dm12 _ | assumption) rfl rfl rfl (Nat.le_of_ble_eq_true rfl) ⟨(Nat.le_of_ble_eq_true rfl), (Nat.le_of_ble_eq_true rfl)⟩ ⟨Nat.le_refl _, Nat.le_refl _⟩ ?_
    refine pg_astore_nN h d_Recv_kept_8 (Nat.le_of_ble_eq_true rfl) rfl rfl ?_
    refine pg_aload_nN h d_Recv_kept_9 rfl ?_
    refine pg_ifnonnullN h d_Recv_kept_10 ?_
    refine pg_iconst (v := (-1)) h d_Recv_kept_13 (by decide) ?_
    refine pg_goto (tgt := 22) h d_Recv_kept_14 rfl ?_
    exact pf_iret h d_Recv_kept_22 rfl (by simp [kptV, *]) rfl
  | some k =>
    have hk : pf_dm w.2.2.1 14 k = true := dmK (pinF_some (by omega) hf)
    refine pg_aload_n h d_Recv_kept_0 rfl ?_
    refine pf_get h ok d_Recv_kept_1 f_Recv_36 (by first | rfl | exact hk | exact hk2 | exact dm12 _ | assumption) rfl rfl ?_
    refine pg_iload_n h d_Recv_kept_4 rfl ?_
    refine pf_cV h ok d_Recv_kept_5 m_Shelf_pageIn l_Recv_125 (c_pin_some w ok S hw x hf) cn_Shelf (by first | rfl | exact hk | exact hk2 | exact dm12 _ | assumption) rfl rfl rfl (Nat.le_of_ble_eq_true rfl) ⟨(Nat.le_of_ble_eq_true rfl), (Nat.le_of_ble_eq_true rfl)⟩ ⟨Nat.le_refl _, Nat.le_refl _⟩ ?_
    refine pg_astore_n h d_Recv_kept_8 (Nat.le_of_ble_eq_true rfl) rfl rfl ?_
    refine pg_aload_n h d_Recv_kept_9 rfl ?_
    refine pg_ifnonnull (tgt := 17) h d_Recv_kept_10 rfl ?_
    refine pg_aload_n h d_Recv_kept_17 rfl ?_
    refine pg_iload_n h d_Recv_kept_18 rfl ?_
    refine pf_cV h ok d_Recv_kept_19 m_Page_tell l_Recv_129 (c_Page_tell w ok S k hk t) cn_Page (by first | rfl | exact hk | exact hk2 | exact dm12 _ | assumption) rfl rfl rfl (Nat.le_of_ble_eq_true rfl) ⟨(Nat.le_of_ble_eq_true rfl), (Nat.le_of_ble_eq_true rfl)⟩ ⟨Nat.le_refl _, Nat.le_refl _⟩ ?_
    exact pf_iret h d_Recv_kept_22 rfl (by simp [kptV, *]) rfl

def cntV (S : pf_S) (x : Int32) : Int32 := if x < 0 then -1 else if x < 6 then S 1 0 x.toNatClampNeg else -1

set_option maxRecDepth 100000 in
set_option maxHeartbeats 4000000 in
theorem c_Recv_count (w : pf_W) (ok : pf_ok w) (S : pf_S) (x : Int32) : pf_C w y_Recv_count b_Recv_count 2 (some .int) 0 0 [.ref (w.2.1 0 0), .int x] S (some (.int (cntV S x))) (S) := by
  refine pf_enter (by decide) (Nat.le_of_ble_eq_true rfl) (lv0 := [some (.ref (w.2.1 0 0)), some (.int x)]) rfl (fun κ h => ?_)
  refine pg_iload_n h d_Recv_count_0 rfl ?_
  refine pg_if_lt (tgt := 10) h d_Recv_count_1 rfl (fun e1 => ?_) (fun e1 => ?_)
  · skip
    refine pg_iconst (v := (-1)) h d_Recv_count_10 (by decide) ?_
    refine pg_goto (tgt := 20) h d_Recv_count_11 rfl ?_
    exact pf_iret h d_Recv_count_20 rfl (by simp [cntV, *]) rfl
  refine pg_iload_n h d_Recv_count_4 rfl ?_
  refine pg_bipush (v := 6) h d_Recv_count_5 (by decide) ?_
  refine pg_icmp_lt (tgt := 14) h d_Recv_count_7 rfl (fun e7 => ?_) (fun e7 => ?_)
  · skip
    refine pg_aload_n h d_Recv_count_14 rfl ?_
    refine pf_get h ok d_Recv_count_15 f_Recv_9 (by first | rfl | exact hk | exact hk2 | exact dm12 _ | assumption) rfl rfl ?_
    refine pg_iload_n h d_Recv_count_18 rfl ?_
    refine pf_ild h ok d_Recv_count_19 (by first | rfl | exact hk | exact hk2 | exact dm12 _ | assumption) rfl (ixP e1 (fun q => absurd e7 (Int32.not_lt.mpr q)) (by decide) : pg_ix x 6 x.toNatClampNeg ∧ _).1 ?_
    exact pf_iret h d_Recv_count_20 rfl (by simp [cntV, *]) rfl
  refine pg_iconst (v := (-1)) h d_Recv_count_10 (by decide) ?_
  refine pg_goto (tgt := 20) h d_Recv_count_11 rfl ?_
  exact pf_iret h d_Recv_count_20 rfl (by simp [cntV, *]) rfl
end
section
/-! States: g is its row of the flat memory, u that of Screen. -/
def SC (S : pf_S) (g u : Nat → Int32) : pf_S := pf_rw (pf_rw S 13 0 g) 12 0 u
section PFSC
variable (S : pf_S) (g u : Nat → Int32)
theorem SC_12 : SC S g u 12 0 = u := rfl
theorem SC_13 : SC S g u 13 0 = g := rfl
theorem SC_1 : SC S g u 1 = S 1 := rfl
theorem SC_2 : SC S g u 2 = S 2 := rfl
theorem SC_6 : SC S g u 6 = S 6 := rfl
theorem SC_10 : SC S g u 10 = S 10 := rfl
theorem SC_14 : SC S g u 14 = S 14 := rfl
theorem SC_15 : SC S g u 15 = S 15 := rfl
theorem SC_16 : SC S g u 16 = S 16 := rfl
theorem SC_17 : SC S g u 17 = S 17 := rfl
theorem SC13 (k : Nat) (v : Int32) : pf_st (SC S g u) 13 0 k v = SC S (upd g k v) u := by
  funext a b
  by_cases h1 : a = 13 ∧ b = 0
  · obtain ⟨rfl, rfl⟩ := h1
    rfl
  · by_cases h2 : a = 12 ∧ b = 0
    · obtain ⟨rfl, rfl⟩ := h2
      rfl
    · simp only [pf_st, SC, pf_rw, if_neg h1, if_neg h2]
theorem SC12 (k : Nat) (v : Int32) : pf_st (SC S g u) 12 0 k v = SC S g (upd u k v) := by
  funext a b
  by_cases h1 : a = 13 ∧ b = 0
  · obtain ⟨rfl, rfl⟩ := h1
    rfl
  · by_cases h2 : a = 12 ∧ b = 0
    · obtain ⟨rfl, rfl⟩ := h2
      rfl
    · simp only [pf_st, SC, pf_rw, if_neg h1, if_neg h2]
theorem SC_self : SC S (S 13 0) (S 12 0) = S := by
  unfold SC
  rw [pf_rw_self, pf_rw_self]
end PFSC
def hlG (g : Nat → Int32) (l s : Int32) : Nat → Int32 := upd (upd g 9 l) 10 s
def bgG (g : Nat → Int32) : Nat → Int32 := hlG (upd (upd (upd (upd (upd (upd (upd (upd (upd g 0 7) 1 0) 2 0) 3 0) 4 0) 5 0) 6 0) 7 0) 8 0) 32 0
def tmG (g : Nat → Int32) (b : Int32) : Nat → Int32 := upd (if nb (g 2) = nb b then g else hlG g 32 0) 2 b
def tdG (g : Nat → Int32) (b : Int32) : Nat → Int32 := upd (if nb (g 6) = nb b then g else hlG g 32 0) 6 b
def tcG (g : Nat → Int32) (c b : Int32) : Nat → Int32 := upd (tmG (upd g 0 c) b) 4 0
/-- States.doAtOnce -/
def onG (g : Nat → Int32) (m : Int32) : Nat → Int32 := if m = 9 then upd g 3 0 else if m = 12 then tdG g 0 else if m = 24 then upd g 4 1 else if m = 25 then upd g 7 0 else if m = 26 then upd g 7 1 else if m = 28 then upd g 1 0 else if m = 29 then upd g 1 (g 0) else if m = 30 then upd g 8 1 else g
/-- States.doAfter -/
def afG (g : Nat → Int32) (m : Int32) : Nat → Int32 := if ¬ 7 < m then tcG g m 0 else if ¬ m < 16 ∧ ¬ 23 < m then tcG g (m - 16) 1 else if m = 8 then upd g 3 1 else if m = 10 then upd g 5 0 else if m = 11 then upd g 5 1 else if m = 13 then tdG g 1 else if m = 31 then upd g 8 0 else g
/-- States.sum -/
def smG (g : Nat → Int32) : Int32 := (if nb (g 3) = 0 then 0 else 16) + (if nb (g 4) = 0 then 0 else 32) + (if nb (g 5) = 0 then 0 else 64)

set_option maxRecDepth 100000 in
set_option maxHeartbeats 4000000 in
theorem c_States_holdLetter (w : pf_W) (ok : pf_ok w) (S : pf_S) (g u : Nat → Int32) (l b : Int32) : pf_C w y_States_holdLetter b_States_holdLetter 3 none 0 0 [.ref (w.2.1 13 0), .int l, .int (nb b)] (SC S g u) (none) (SC S (hlG g l b) u) := by
  refine pf_enter (by decide) (Nat.le_of_ble_eq_true rfl) (lv0 := [some (.ref (w.2.1 13 0)), some (.int l), some (.int (nb b))]) rfl (fun κ h => ?_)
  refine pg_aload_n h d_States_holdLetter_0 rfl ?_
  refine pg_iload_n h d_States_holdLetter_1 rfl ?_
  refine pf_puti h ok d_States_holdLetter_2 fw_States_44 (by first | rfl | exact hk | exact hk2 | exact dm12 _ | assumption) rfl (Nat.le_of_ble_eq_true rfl) rfl ?_
  try simp only [SC13, SC12, SC_12, SC_13, SC_6, SC_10, SC_14, SC_15, SC_16, SC_17]
  refine pg_aload_n h d_States_holdLetter_5 rfl ?_
  refine pg_iload_n h d_States_holdLetter_6 rfl ?_
  refine pf_putz _ h ok d_States_holdLetter_7 fw_States_47 (by first | rfl | exact hk | exact hk2 | exact dm12 _ | assumption) rfl (Nat.le_of_ble_eq_true rfl) rfl ?_
  try simp only [SC13, SC12, SC_12, SC_13, SC_6, SC_10, SC_14, SC_15, SC_16, SC_17]
  exact pf_vret h d_States_holdLetter_10 rfl

theorem c_hl0 (w : pf_W) (ok : pf_ok w) (S : pf_S) (g u : Nat → Int32) : pf_C w y_States_holdLetter b_States_holdLetter 3 none 0 0 [.ref (w.2.1 13 0), .int 32, .int 0] (SC S g u) none (SC S (hlG g 32 0) u) := c_States_holdLetter w ok S g u 32 0

set_option maxRecDepth 100000 in
set_option maxHeartbeats 4000000 in
theorem c_States_begin (w : pf_W) (ok : pf_ok w) (S : pf_S) (g u : Nat → Int32)  : pf_C w y_States_begin b_States_begin 1 none 1 22 [.ref (w.2.1 13 0)] (SC S g u) (none) (SC S (bgG g) u) := by
  refine pf_enter (by decide) (Nat.le_of_ble_eq_true rfl) (lv0 := [some (.ref (w.2.1 13 0))]) rfl (fun κ h => ?_)
  refine pg_aload_n h d_States_begin_0 rfl ?_
  refine pg_bipush (v := 7) h d_States_begin_1 (by decide) ?_
  refine pf_puti h ok d_States_begin_3 fw_States_9 (by first | rfl | exact hk | exact hk2 | exact dm12 _ | assumption) rfl (Nat.le_of_ble_eq_true rfl) rfl ?_
  try simp only [SC13, SC12, SC_12, SC_13, SC_6, SC_10, SC_14, SC_15, SC_16, SC_17]
  refine pg_aload_n h d_States_begin_6 rfl ?_
  refine pg_iconst (v := 0) h d_States_begin_7 (by decide) ?_
  refine pf_puti h ok d_States_begin_8 fw_States_15 (by first | rfl | exact hk | exact hk2 | exact dm12 _ | assumption) rfl (Nat.le_of_ble_eq_true rfl) rfl ?_
  try simp only [SC13, SC12, SC_12, SC_13, SC_6, SC_10, SC_14, SC_15, SC_16, SC_17]
  refine pg_aload_n h d_States_begin_11 rfl ?_
  refine pg_iconst (v := 0) h d_States_begin_12 (by decide) ?_
  refine pf_putz 0 h ok d_States_begin_13 fw_States_18 (by first | rfl | exact hk | exact hk2 | exact dm12 _ | assumption) rfl (Nat.le_of_ble_eq_true rfl) rfl ?_
  try simp only [SC13, SC12, SC_12, SC_13, SC_6, SC_10, SC_14, SC_15, SC_16, SC_17]
  refine pg_aload_n h d_States_begin_16 rfl ?_
  refine pg_iconst (v := 0) h d_States_begin_17 (by decide) ?_
  refine pf_putz 0 h ok d_States_begin_18 fw_States_22 (by first | rfl | exact hk | exact hk2 | exact dm12 _ | assumption) rfl (Nat.le_of_ble_eq_true rfl) rfl ?_
  try simp only [SC13, SC12, SC_12, SC_13, SC_6, SC_10, SC_14, SC_15, SC_16, SC_17]
  refine pg_aload_n h d_States_begin_21 rfl ?_
  refine pg_iconst (v := 0) h d_States_begin_22 (by decide) ?_
  refine pf_putz 0 h ok d_States_begin_23 fw_States_25 (by first | rfl | exact hk | exact hk2 | exact dm12 _ | assumption) rfl (Nat.le_of_ble_eq_true rfl) rfl ?_
  try simp only [SC13, SC12, SC_12, SC_13, SC_6, SC_10, SC_14, SC_15, SC_16, SC_17]
  refine pg_aload_n h d_States_begin_26 rfl ?_
  refine pg_iconst (v := 0) h d_States_begin_27 (by decide) ?_
  refine pf_putz 0 h ok d_States_begin_28 fw_States_28 (by first | rfl | exact hk | exact hk2 | exact dm12 _ | assumption) rfl (Nat.le_of_ble_eq_true rfl) rfl ?_
  try simp only [SC13, SC12, SC_12, SC_13, SC_6, SC_10, SC_14, SC_15, SC_16, SC_17]
  refine pg_aload_n h d_States_begin_31 rfl ?_
  refine pg_iconst (v := 0) h d_States_begin_32 (by decide) ?_
  refine pf_putz 0 h ok d_States_begin_33 fw_States_31 (by first | rfl | exact hk | exact hk2 | exact dm12 _ | assumption) rfl (Nat.le_of_ble_eq_true rfl) rfl ?_
  try simp only [SC13, SC12, SC_12, SC_13, SC_6, SC_10, SC_14, SC_15, SC_16, SC_17]
  refine pg_aload_n h d_States_begin_36 rfl ?_
  refine pg_iconst (v := 0) h d_States_begin_37 (by decide) ?_
  refine pf_putz 0 h ok d_States_begin_38 fw_States_34 (by first | rfl | exact hk | exact hk2 | exact dm12 _ | assumption) rfl (Nat.le_of_ble_eq_true rfl) rfl ?_
  try simp only [SC13, SC12, SC_12, SC_13, SC_6, SC_10, SC_14, SC_15, SC_16, SC_17]
  refine pg_aload_n h d_States_begin_41 rfl ?_
  refine pg_iconst (v := 0) h d_States_begin_42 (by decide) ?_
  refine pf_putz 0 h ok d_States_begin_43 fw_States_37 (by first | rfl | exact hk | exact hk2 | exact dm12 _ | assumption) rfl (Nat.le_of_ble_eq_true rfl) rfl ?_
  try simp only [SC13, SC12, SC_12, SC_13, SC_6, SC_10, SC_14, SC_15, SC_16, SC_17]
  refine pg_aload_n h d_States_begin_46 rfl ?_
  refine pg_bipush (v := 32) h d_States_begin_47 (by decide) ?_
  refine pg_iconst (v := 0) h d_States_begin_49 (by decide) ?_
  refine pf_cV0 h ok d_States_begin_50 m_States_holdLetter l_States_40 (c_hl0 w ok S _ u) cn_States (by first | rfl | exact hk | exact hk2 | exact dm12 _ | assumption) rfl rfl rfl (Nat.le_of_ble_eq_true rfl) ⟨(Nat.le_of_ble_eq_true rfl), (Nat.le_of_ble_eq_true rfl)⟩ ⟨Nat.le_refl _, Nat.le_refl _⟩ ?_
  try simp only [SC13, SC12, SC_12, SC_13, SC_6, SC_10, SC_14, SC_15, SC_16, SC_17]
  exact pf_vret h d_States_begin_53 rfl

set_option maxRecDepth 100000 in
set_option maxHeartbeats 4000000 in
theorem c_States_turnMosaic (w : pf_W) (ok : pf_ok w) (S : pf_S) (g u : Nat → Int32) (b : Int32) : pf_C w y_States_turnMosaic b_States_turnMosaic 2 none 1 22 [.ref (w.2.1 13 0), .int (nb b)] (SC S g u) (none) (SC S (tmG g b) u) := by
  refine pf_enter (by decide) (Nat.le_of_ble_eq_true rfl) (lv0 := [some (.ref (w.2.1 13 0)), some (.int (nb b))]) rfl (fun κ h => ?_)
  refine pg_aload_n h d_States_turnMosaic_0 rfl ?_
  refine pf_get h ok d_States_turnMosaic_1 f_States_18 (by first | rfl | exact hk | exact hk2 | exact dm12 _ | assumption) rfl rfl ?_
  try simp only [SC13, SC12, SC_12, SC_13, SC_6, SC_10, SC_14, SC_15, SC_16, SC_17]
  refine pg_iload_n h d_States_turnMosaic_4 rfl ?_
  refine pg_icmp_eq (tgt := 15) h d_States_turnMosaic_5 rfl (fun e5 => ?_) (fun e5 => ?_)
  · skip
    refine pg_aload_n h d_States_turnMosaic_15 rfl ?_
    refine pg_iload_n h d_States_turnMosaic_16 rfl ?_
    refine pf_putz _ h ok d_States_turnMosaic_17 fw_States_18 (by first | rfl | exact hk | exact hk2 | exact dm12 _ | assumption) rfl (Nat.le_of_ble_eq_true rfl) rfl ?_
    try simp only [SC13, SC12, SC_12, SC_13, SC_6, SC_10, SC_14, SC_15, SC_16, SC_17]
    exact pf_vret h d_States_turnMosaic_20 (by simp only [tmG, e5]; simp)
  refine pg_aload_n h d_States_turnMosaic_8 rfl ?_
  refine pg_bipush (v := 32) h d_States_turnMosaic_9 (by decide) ?_
  refine pg_iconst (v := 0) h d_States_turnMosaic_11 (by decide) ?_
  refine pf_cV0 h ok d_States_turnMosaic_12 m_States_holdLetter l_States_40 (c_hl0 w ok S g u) cn_States (by first | rfl | exact hk | exact hk2 | exact dm12 _ | assumption) rfl rfl rfl (Nat.le_of_ble_eq_true rfl) ⟨(Nat.le_of_ble_eq_true rfl), (Nat.le_of_ble_eq_true rfl)⟩ ⟨Nat.le_refl _, Nat.le_refl _⟩ ?_
  try simp only [SC13, SC12, SC_12, SC_13, SC_6, SC_10, SC_14, SC_15, SC_16, SC_17]
  refine pg_aload_n h d_States_turnMosaic_15 rfl ?_
  refine pg_iload_n h d_States_turnMosaic_16 rfl ?_
  refine pf_putz _ h ok d_States_turnMosaic_17 fw_States_18 (by first | rfl | exact hk | exact hk2 | exact dm12 _ | assumption) rfl (Nat.le_of_ble_eq_true rfl) rfl ?_
  try simp only [SC13, SC12, SC_12, SC_13, SC_6, SC_10, SC_14, SC_15, SC_16, SC_17]
  exact pf_vret h d_States_turnMosaic_20 (by simp only [tmG, e5]; simp)

theorem c_tmG0 (w : pf_W) (ok : pf_ok w) (S : pf_S) (g u : Nat → Int32) : pf_C w y_States_turnMosaic b_States_turnMosaic 2 none 1 22 [.ref (w.2.1 13 0), .int 0] (SC S g u) none (SC S (tmG g 0) u) := c_States_turnMosaic w ok S g u 0
theorem c_tmG1 (w : pf_W) (ok : pf_ok w) (S : pf_S) (g u : Nat → Int32) : pf_C w y_States_turnMosaic b_States_turnMosaic 2 none 1 22 [.ref (w.2.1 13 0), .int 1] (SC S g u) none (SC S (tmG g 1) u) := c_States_turnMosaic w ok S g u 1

set_option maxRecDepth 100000 in
set_option maxHeartbeats 4000000 in
theorem c_States_turnDouble (w : pf_W) (ok : pf_ok w) (S : pf_S) (g u : Nat → Int32) (b : Int32) : pf_C w y_States_turnDouble b_States_turnDouble 2 none 1 22 [.ref (w.2.1 13 0), .int (nb b)] (SC S g u) (none) (SC S (tdG g b) u) := by
  refine pf_enter (by decide) (Nat.le_of_ble_eq_true rfl) (lv0 := [some (.ref (w.2.1 13 0)), some (.int (nb b))]) rfl (fun κ h => ?_)
  refine pg_aload_n h d_States_turnDouble_0 rfl ?_
  refine pf_get h ok d_States_turnDouble_1 f_States_31 (by first | rfl | exact hk | exact hk2 | exact dm12 _ | assumption) rfl rfl ?_
  try simp only [SC13, SC12, SC_12, SC_13, SC_6, SC_10, SC_14, SC_15, SC_16, SC_17]
  refine pg_iload_n h d_States_turnDouble_4 rfl ?_
  refine pg_icmp_eq (tgt := 15) h d_States_turnDouble_5 rfl (fun e5 => ?_) (fun e5 => ?_)
  · skip
    refine pg_aload_n h d_States_turnDouble_15 rfl ?_
    refine pg_iload_n h d_States_turnDouble_16 rfl ?_
    refine pf_putz _ h ok d_States_turnDouble_17 fw_States_31 (by first | rfl | exact hk | exact hk2 | exact dm12 _ | assumption) rfl (Nat.le_of_ble_eq_true rfl) rfl ?_
    try simp only [SC13, SC12, SC_12, SC_13, SC_6, SC_10, SC_14, SC_15, SC_16, SC_17]
    exact pf_vret h d_States_turnDouble_20 (by simp only [tdG, e5]; simp)
  refine pg_aload_n h d_States_turnDouble_8 rfl ?_
  refine pg_bipush (v := 32) h d_States_turnDouble_9 (by decide) ?_
  refine pg_iconst (v := 0) h d_States_turnDouble_11 (by decide) ?_
  refine pf_cV0 h ok d_States_turnDouble_12 m_States_holdLetter l_States_40 (c_hl0 w ok S g u) cn_States (by first | rfl | exact hk | exact hk2 | exact dm12 _ | assumption) rfl rfl rfl (Nat.le_of_ble_eq_true rfl) ⟨(Nat.le_of_ble_eq_true rfl), (Nat.le_of_ble_eq_true rfl)⟩ ⟨Nat.le_refl _, Nat.le_refl _⟩ ?_
  try simp only [SC13, SC12, SC_12, SC_13, SC_6, SC_10, SC_14, SC_15, SC_16, SC_17]
  refine pg_aload_n h d_States_turnDouble_15 rfl ?_
  refine pg_iload_n h d_States_turnDouble_16 rfl ?_
  refine pf_putz _ h ok d_States_turnDouble_17 fw_States_31 (by first | rfl | exact hk | exact hk2 | exact dm12 _ | assumption) rfl (Nat.le_of_ble_eq_true rfl) rfl ?_
  try simp only [SC13, SC12, SC_12, SC_13, SC_6, SC_10, SC_14, SC_15, SC_16, SC_17]
  exact pf_vret h d_States_turnDouble_20 (by simp only [tdG, e5]; simp)

theorem c_tdG0 (w : pf_W) (ok : pf_ok w) (S : pf_S) (g u : Nat → Int32) : pf_C w y_States_turnDouble b_States_turnDouble 2 none 1 22 [.ref (w.2.1 13 0), .int 0] (SC S g u) none (SC S (tdG g 0) u) := c_States_turnDouble w ok S g u 0
theorem c_tdG1 (w : pf_W) (ok : pf_ok w) (S : pf_S) (g u : Nat → Int32) : pf_C w y_States_turnDouble b_States_turnDouble 2 none 1 22 [.ref (w.2.1 13 0), .int 1] (SC S g u) none (SC S (tdG g 1) u) := c_States_turnDouble w ok S g u 1

set_option maxRecDepth 100000 in
set_option maxHeartbeats 4000000 in
theorem c_States_takeColour (w : pf_W) (ok : pf_ok w) (S : pf_S) (g u : Nat → Int32) (c b : Int32) : pf_C w y_States_takeColour b_States_takeColour 3 none 2 43 [.ref (w.2.1 13 0), .int c, .int (nb b)] (SC S g u) (none) (SC S (tcG g c b) u) := by
  refine pf_enter (by decide) (Nat.le_of_ble_eq_true rfl) (lv0 := [some (.ref (w.2.1 13 0)), some (.int c), some (.int (nb b))]) rfl (fun κ h => ?_)
  refine pg_aload_n h d_States_takeColour_0 rfl ?_
  refine pg_iload_n h d_States_takeColour_1 rfl ?_
  refine pf_puti h ok d_States_takeColour_2 fw_States_9 (by first | rfl | exact hk | exact hk2 | exact dm12 _ | assumption) rfl (Nat.le_of_ble_eq_true rfl) rfl ?_
  try simp only [SC13, SC12, SC_12, SC_13, SC_6, SC_10, SC_14, SC_15, SC_16, SC_17]
  refine pg_aload_n h d_States_takeColour_5 rfl ?_
  refine pg_iload_n h d_States_takeColour_6 rfl ?_
  refine pf_cV0 h ok d_States_takeColour_7 m_States_turnMosaic l_States_57 (c_States_turnMosaic w ok S _ u b) cn_States (by first | rfl | exact hk | exact hk2 | exact dm12 _ | assumption) rfl rfl rfl (Nat.le_of_ble_eq_true rfl) ⟨(Nat.le_of_ble_eq_true rfl), (Nat.le_of_ble_eq_true rfl)⟩ ⟨Nat.le_refl _, Nat.le_refl _⟩ ?_
  try simp only [SC13, SC12, SC_12, SC_13, SC_6, SC_10, SC_14, SC_15, SC_16, SC_17]
  refine pg_aload_n h d_States_takeColour_10 rfl ?_
  refine pg_iconst (v := 0) h d_States_takeColour_11 (by decide) ?_
  refine pf_putz 0 h ok d_States_takeColour_12 fw_States_25 (by first | rfl | exact hk | exact hk2 | exact dm12 _ | assumption) rfl (Nat.le_of_ble_eq_true rfl) rfl ?_
  try simp only [SC13, SC12, SC_12, SC_13, SC_6, SC_10, SC_14, SC_15, SC_16, SC_17]
  exact pf_vret h d_States_takeColour_15 rfl

theorem c_tcG0 (w : pf_W) (ok : pf_ok w) (S : pf_S) (g u : Nat → Int32) (c : Int32) : pf_C w y_States_takeColour b_States_takeColour 3 none 2 43 [.ref (w.2.1 13 0), .int c, .int 0] (SC S g u) none (SC S (tcG g c 0) u) := c_States_takeColour w ok S g u c 0
theorem c_tcG1 (w : pf_W) (ok : pf_ok w) (S : pf_S) (g u : Nat → Int32) (c : Int32) : pf_C w y_States_takeColour b_States_takeColour 3 none 2 43 [.ref (w.2.1 13 0), .int c, .int 1] (SC S g u) none (SC S (tcG g c 1) u) := c_States_takeColour w ok S g u c 1

set_option maxRecDepth 100000 in
set_option maxHeartbeats 4000000 in
theorem c_States_doAtOnce (w : pf_W) (ok : pf_ok w) (S : pf_S) (g u : Nat → Int32) (m : Int32) : pf_C w y_States_doAtOnce b_States_doAtOnce 2 none 2 43 [.ref (w.2.1 13 0), .int m] (SC S g u) (none) (SC S (onG g m) u) := by
  refine pf_enter (by decide) (Nat.le_of_ble_eq_true rfl) (lv0 := [some (.ref (w.2.1 13 0)), some (.int m)]) rfl (fun κ h => ?_)
  refine pg_iload_n h d_States_doAtOnce_0 rfl ?_
  by_cases c9 : m = 9
  · refine pg_tableIn (off := 103) (tgt := 104) h d_States_doAtOnce_1 (by rw [c9]; decide) (by rw [c9]; decide) (by rw [c9]; rfl) rfl ?_
    refine pg_aload_n h d_States_doAtOnce_104 rfl ?_
    refine pg_iconst (v := 0) h d_States_doAtOnce_105 (by decide) ?_
    refine pf_putz 0 h ok d_States_doAtOnce_106 fw_States_22 (by first | rfl | exact hk | exact hk2 | exact dm12 _ | assumption) rfl (Nat.le_of_ble_eq_true rfl) rfl ?_
    try simp only [SC13, SC12, SC_12, SC_13, SC_6, SC_10, SC_14, SC_15, SC_16, SC_17]
    refine pg_goto (tgt := 171) h d_States_doAtOnce_109 rfl ?_
    exact pf_vret h d_States_doAtOnce_171 (by simp [onG, *])
  by_cases c12 : m = 12
  · refine pg_tableIn (off := 111) (tgt := 112) h d_States_doAtOnce_1 (by rw [c12]; decide) (by rw [c12]; decide) (by rw [c12]; rfl) rfl ?_
    refine pg_aload_n h d_States_doAtOnce_112 rfl ?_
    refine pg_iconst (v := 0) h d_States_doAtOnce_113 (by decide) ?_
    refine pf_cV0 h ok d_States_doAtOnce_114 m_States_turnDouble l_States_50 (c_tdG0 w ok S g u) cn_States (by first | rfl | exact hk | exact hk2 | exact dm12 _ | assumption) rfl rfl rfl (Nat.le_of_ble_eq_true rfl) ⟨(Nat.le_of_ble_eq_true rfl), (Nat.le_of_ble_eq_true rfl)⟩ ⟨Nat.le_refl _, Nat.le_refl _⟩ ?_
    try simp only [SC13, SC12, SC_12, SC_13, SC_6, SC_10, SC_14, SC_15, SC_16, SC_17]
    refine pg_goto (tgt := 171) h d_States_doAtOnce_117 rfl ?_
    exact pf_vret h d_States_doAtOnce_171 (by simp [onG, *])
  by_cases c24 : m = 24
  · refine pg_tableIn (off := 119) (tgt := 120) h d_States_doAtOnce_1 (by rw [c24]; decide) (by rw [c24]; decide) (by rw [c24]; rfl) rfl ?_
    refine pg_aload_n h d_States_doAtOnce_120 rfl ?_
    refine pg_iconst (v := 1) h d_States_doAtOnce_121 (by decide) ?_
    refine pf_putz 1 h ok d_States_doAtOnce_122 fw_States_25 (by first | rfl | exact hk | exact hk2 | exact dm12 _ | assumption) rfl (Nat.le_of_ble_eq_true rfl) rfl ?_
    try simp only [SC13, SC12, SC_12, SC_13, SC_6, SC_10, SC_14, SC_15, SC_16, SC_17]
    refine pg_goto (tgt := 171) h d_States_doAtOnce_125 rfl ?_
    exact pf_vret h d_States_doAtOnce_171 (by simp [onG, *])
  by_cases c25 : m = 25
  · refine pg_tableIn (off := 127) (tgt := 128) h d_States_doAtOnce_1 (by rw [c25]; decide) (by rw [c25]; decide) (by rw [c25]; rfl) rfl ?_
    refine pg_aload_n h d_States_doAtOnce_128 rfl ?_
    refine pg_iconst (v := 0) h d_States_doAtOnce_129 (by decide) ?_
    refine pf_putz 0 h ok d_States_doAtOnce_130 fw_States_34 (by first | rfl | exact hk | exact hk2 | exact dm12 _ | assumption) rfl (Nat.le_of_ble_eq_true rfl) rfl ?_
    try simp only [SC13, SC12, SC_12, SC_13, SC_6, SC_10, SC_14, SC_15, SC_16, SC_17]
    refine pg_goto (tgt := 171) h d_States_doAtOnce_133 rfl ?_
    exact pf_vret h d_States_doAtOnce_171 (by simp [onG, *])
  by_cases c26 : m = 26
  · refine pg_tableIn (off := 135) (tgt := 136) h d_States_doAtOnce_1 (by rw [c26]; decide) (by rw [c26]; decide) (by rw [c26]; rfl) rfl ?_
    refine pg_aload_n h d_States_doAtOnce_136 rfl ?_
    refine pg_iconst (v := 1) h d_States_doAtOnce_137 (by decide) ?_
    refine pf_putz 1 h ok d_States_doAtOnce_138 fw_States_34 (by first | rfl | exact hk | exact hk2 | exact dm12 _ | assumption) rfl (Nat.le_of_ble_eq_true rfl) rfl ?_
    try simp only [SC13, SC12, SC_12, SC_13, SC_6, SC_10, SC_14, SC_15, SC_16, SC_17]
    refine pg_goto (tgt := 171) h d_States_doAtOnce_141 rfl ?_
    exact pf_vret h d_States_doAtOnce_171 (by simp [onG, *])
  by_cases c28 : m = 28
  · refine pg_tableIn (off := 143) (tgt := 144) h d_States_doAtOnce_1 (by rw [c28]; decide) (by rw [c28]; decide) (by rw [c28]; rfl) rfl ?_
    refine pg_aload_n h d_States_doAtOnce_144 rfl ?_
    refine pg_iconst (v := 0) h d_States_doAtOnce_145 (by decide) ?_
    refine pf_puti h ok d_States_doAtOnce_146 fw_States_15 (by first | rfl | exact hk | exact hk2 | exact dm12 _ | assumption) rfl (Nat.le_of_ble_eq_true rfl) rfl ?_
    try simp only [SC13, SC12, SC_12, SC_13, SC_6, SC_10, SC_14, SC_15, SC_16, SC_17]
    refine pg_goto (tgt := 171) h d_States_doAtOnce_149 rfl ?_
    exact pf_vret h d_States_doAtOnce_171 (by simp [onG, *])
  by_cases c29 : m = 29
  · refine pg_tableIn (off := 151) (tgt := 152) h d_States_doAtOnce_1 (by rw [c29]; decide) (by rw [c29]; decide) (by rw [c29]; rfl) rfl ?_
    refine pg_aload_n h d_States_doAtOnce_152 rfl ?_
    refine pg_aload_n h d_States_doAtOnce_153 rfl ?_
    refine pf_get h ok d_States_doAtOnce_154 f_States_9 (by first | rfl | exact hk | exact hk2 | exact dm12 _ | assumption) rfl rfl ?_
    try simp only [SC13, SC12, SC_12, SC_13, SC_6, SC_10, SC_14, SC_15, SC_16, SC_17]
    refine pf_puti h ok d_States_doAtOnce_157 fw_States_15 (by first | rfl | exact hk | exact hk2 | exact dm12 _ | assumption) rfl (Nat.le_of_ble_eq_true rfl) rfl ?_
    try simp only [SC13, SC12, SC_12, SC_13, SC_6, SC_10, SC_14, SC_15, SC_16, SC_17]
    refine pg_goto (tgt := 171) h d_States_doAtOnce_160 rfl ?_
    exact pf_vret h d_States_doAtOnce_171 (by simp [onG, *])
  by_cases c30 : m = 30
  · refine pg_tableIn (off := 162) (tgt := 163) h d_States_doAtOnce_1 (by rw [c30]; decide) (by rw [c30]; decide) (by rw [c30]; rfl) rfl ?_
    refine pg_aload_n h d_States_doAtOnce_163 rfl ?_
    refine pg_iconst (v := 1) h d_States_doAtOnce_164 (by decide) ?_
    refine pf_putz 1 h ok d_States_doAtOnce_165 fw_States_37 (by first | rfl | exact hk | exact hk2 | exact dm12 _ | assumption) rfl (Nat.le_of_ble_eq_true rfl) rfl ?_
    try simp only [SC13, SC12, SC_12, SC_13, SC_6, SC_10, SC_14, SC_15, SC_16, SC_17]
    refine pg_goto (tgt := 171) h d_States_doAtOnce_168 rfl ?_
    exact pf_vret h d_States_doAtOnce_171 (by simp [onG, *])
  have hr : SC S (onG g m) u = SC S g u := by simp [onG, *]
  by_cases hlo : m.toInt < 9
  · refine pg_tableOut (tgt := 171) h d_States_doAtOnce_1 (Or.inl hlo) rfl ?_
    exact pf_vret h d_States_doAtOnce_171 hr
  by_cases hhi : 30 < m.toInt
  · refine pg_tableOut (tgt := 171) h d_States_doAtOnce_1 (Or.inr hhi) rfl ?_
    exact pf_vret h d_States_doAtOnce_171 hr
  have hj : ∃ j : Nat, m = nI j ∧ 9 ≤ j ∧ j ≤ 30 := by
    obtain ⟨j, hj, rfl⟩ := nI_of (x := m) (fun q => by
      have := Int32.lt_iff_toInt_lt.mp q
      simp at this
      omega)
    rw [nI_toInt hj] at hlo hhi
    exact ⟨j, rfl, by omega, by omega⟩
  obtain ⟨j, rfl, h9, h30⟩ := hj
  rcases (show j = 9 ∨ j = 10 ∨ j = 11 ∨ j = 12 ∨ j = 13 ∨ j = 14 ∨ j = 15 ∨ j = 16 ∨ j = 17 ∨ j = 18 ∨ j = 19 ∨ j = 20 ∨ j = 21 ∨ j = 22 ∨ j = 23 ∨ j = 24 ∨ j = 25 ∨ j = 26 ∨ j = 27 ∨ j = 28 ∨ j = 29 ∨ j = 30 by omega) with rfl | rfl | rfl | rfl | rfl | rfl | rfl | rfl | rfl | rfl | rfl | rfl | rfl | rfl | rfl | rfl | rfl | rfl | rfl | rfl | rfl | rfl
  · exact absurd rfl c9
  · refine pg_tableIn (off := 170) (tgt := 171) h d_States_doAtOnce_1 (by decide) (by decide) rfl rfl ?_
    exact pf_vret h d_States_doAtOnce_171 hr
  · refine pg_tableIn (off := 170) (tgt := 171) h d_States_doAtOnce_1 (by decide) (by decide) rfl rfl ?_
    exact pf_vret h d_States_doAtOnce_171 hr
  · exact absurd rfl c12
  · refine pg_tableIn (off := 170) (tgt := 171) h d_States_doAtOnce_1 (by decide) (by decide) rfl rfl ?_
    exact pf_vret h d_States_doAtOnce_171 hr
  · refine pg_tableIn (off := 170) (tgt := 171) h d_States_doAtOnce_1 (by decide) (by decide) rfl rfl ?_
    exact pf_vret h d_States_doAtOnce_171 hr
  · refine pg_tableIn (off := 170) (tgt := 171) h d_States_doAtOnce_1 (by decide) (by decide) rfl rfl ?_
    exact pf_vret h d_States_doAtOnce_171 hr
  · refine pg_tableIn (off := 170) (tgt := 171) h d_States_doAtOnce_1 (by decide) (by decide) rfl rfl ?_
    exact pf_vret h d_States_doAtOnce_171 hr
  · refine pg_tableIn (off := 170) (tgt := 171) h d_States_doAtOnce_1 (by decide) (by decide) rfl rfl ?_
    exact pf_vret h d_States_doAtOnce_171 hr
  · refine pg_tableIn (off := 170) (tgt := 171) h d_States_doAtOnce_1 (by decide) (by decide) rfl rfl ?_
    exact pf_vret h d_States_doAtOnce_171 hr
  · refine pg_tableIn (off := 170) (tgt := 171) h d_States_doAtOnce_1 (by decide) (by decide) rfl rfl ?_
    exact pf_vret h d_States_doAtOnce_171 hr
  · refine pg_tableIn (off := 170) (tgt := 171) h d_States_doAtOnce_1 (by decide) (by decide) rfl rfl ?_
    exact pf_vret h d_States_doAtOnce_171 hr
  · refine pg_tableIn (off := 170) (tgt := 171) h d_States_doAtOnce_1 (by decide) (by decide) rfl rfl ?_
    exact pf_vret h d_States_doAtOnce_171 hr
  · refine pg_tableIn (off := 170) (tgt := 171) h d_States_doAtOnce_1 (by decide) (by decide) rfl rfl ?_
    exact pf_vret h d_States_doAtOnce_171 hr
  · refine pg_tableIn (off := 170) (tgt := 171) h d_States_doAtOnce_1 (by decide) (by decide) rfl rfl ?_
    exact pf_vret h d_States_doAtOnce_171 hr
  · exact absurd rfl c24
  · exact absurd rfl c25
  · exact absurd rfl c26
  · refine pg_tableIn (off := 170) (tgt := 171) h d_States_doAtOnce_1 (by decide) (by decide) rfl rfl ?_
    exact pf_vret h d_States_doAtOnce_171 hr
  · exact absurd rfl c28
  · exact absurd rfl c29
  · exact absurd rfl c30

set_option maxRecDepth 100000 in
set_option maxHeartbeats 4000000 in
theorem c_States_doAfter (w : pf_W) (ok : pf_ok w) (S : pf_S) (g u : Nat → Int32) (m : Int32) : pf_C w y_States_doAfter b_States_doAfter 2 none 3 65 [.ref (w.2.1 13 0), .int m] (SC S g u) (none) (SC S (afG g m) u) := by
  refine pf_enter (by decide) (Nat.le_of_ble_eq_true rfl) (lv0 := [some (.ref (w.2.1 13 0)), some (.int m)]) rfl (fun κ h => ?_)
  refine pg_iload_n h d_States_doAfter_0 rfl ?_
  refine pg_bipush (v := 7) h d_States_doAfter_1 (by decide) ?_
  refine pg_icmp_gt (tgt := 15) h d_States_doAfter_3 rfl (fun e3 => ?_) (fun e3 => ?_)
  · skip
    refine pg_iload_n h d_States_doAfter_15 rfl ?_
    refine pg_bipush (v := 16) h d_States_doAfter_16 (by decide) ?_
    refine pg_icmp_lt (tgt := 39) h d_States_doAfter_18 rfl (fun e18 => ?_) (fun e18 => ?_)
    · skip
      refine pg_iload_n h d_States_doAfter_39 rfl ?_
      refine pg_bipush (v := 8) h d_States_doAfter_40 (by decide) ?_
      refine pg_icmp_ne (tgt := 53) h d_States_doAfter_42 rfl (fun e42 => ?_) (fun e42 => ?_)
      · skip
        refine pg_iload_n h d_States_doAfter_53 rfl ?_
        refine pg_bipush (v := 10) h d_States_doAfter_54 (by decide) ?_
        refine pg_icmp_ne (tgt := 67) h d_States_doAfter_56 rfl (fun e56 => ?_) (fun e56 => ?_)
        · skip
          refine pg_iload_n h d_States_doAfter_67 rfl ?_
          refine pg_bipush (v := 11) h d_States_doAfter_68 (by decide) ?_
          refine pg_icmp_ne (tgt := 81) h d_States_doAfter_70 rfl (fun e70 => ?_) (fun e70 => ?_)
          · skip
            refine pg_iload_n h d_States_doAfter_81 rfl ?_
            refine pg_bipush (v := 13) h d_States_doAfter_82 (by decide) ?_
            refine pg_icmp_ne (tgt := 95) h d_States_doAfter_84 rfl (fun e84 => ?_) (fun e84 => ?_)
            · skip
              refine pg_iload_n h d_States_doAfter_95 rfl ?_
              refine pg_bipush (v := 31) h d_States_doAfter_96 (by decide) ?_
              refine pg_icmp_ne (tgt := 106) h d_States_doAfter_98 rfl (fun e98 => ?_) (fun e98 => ?_)
              · skip
                exact pf_vret h d_States_doAfter_106 (by simp [afG, *])
              refine pg_aload_n h d_States_doAfter_101 rfl ?_
              refine pg_iconst (v := 0) h d_States_doAfter_102 (by decide) ?_
              refine pf_putz 0 h ok d_States_doAfter_103 fw_States_37 (by first | rfl | exact hk | exact hk2 | exact dm12 _ | assumption) rfl (Nat.le_of_ble_eq_true rfl) rfl ?_
              try simp only [SC13, SC12, SC_12, SC_13, SC_6, SC_10, SC_14, SC_15, SC_16, SC_17]
              exact pf_vret h d_States_doAfter_106 (by simp [afG, *])
            refine pg_aload_n h d_States_doAfter_87 rfl ?_
            refine pg_iconst (v := 1) h d_States_doAfter_88 (by decide) ?_
            refine pf_cV0 h ok d_States_doAfter_89 m_States_turnDouble l_States_50 (c_tdG1 w ok S g u) cn_States (by first | rfl | exact hk | exact hk2 | exact dm12 _ | assumption) rfl rfl rfl (Nat.le_of_ble_eq_true rfl) ⟨(Nat.le_of_ble_eq_true rfl), (Nat.le_of_ble_eq_true rfl)⟩ ⟨Nat.le_refl _, Nat.le_refl _⟩ ?_
            try simp only [SC13, SC12, SC_12, SC_13, SC_6, SC_10, SC_14, SC_15, SC_16, SC_17]
            refine pg_goto (tgt := 106) h d_States_doAfter_92 rfl ?_
            exact pf_vret h d_States_doAfter_106 (by simp [afG, *])
          refine pg_aload_n h d_States_doAfter_73 rfl ?_
          refine pg_iconst (v := 1) h d_States_doAfter_74 (by decide) ?_
          refine pf_putz 1 h ok d_States_doAfter_75 fw_States_28 (by first | rfl | exact hk | exact hk2 | exact dm12 _ | assumption) rfl (Nat.le_of_ble_eq_true rfl) rfl ?_
          try simp only [SC13, SC12, SC_12, SC_13, SC_6, SC_10, SC_14, SC_15, SC_16, SC_17]
          refine pg_goto (tgt := 106) h d_States_doAfter_78 rfl ?_
          exact pf_vret h d_States_doAfter_106 (by simp [afG, *])
        refine pg_aload_n h d_States_doAfter_59 rfl ?_
        refine pg_iconst (v := 0) h d_States_doAfter_60 (by decide) ?_
        refine pf_putz 0 h ok d_States_doAfter_61 fw_States_28 (by first | rfl | exact hk | exact hk2 | exact dm12 _ | assumption) rfl (Nat.le_of_ble_eq_true rfl) rfl ?_
        try simp only [SC13, SC12, SC_12, SC_13, SC_6, SC_10, SC_14, SC_15, SC_16, SC_17]
        refine pg_goto (tgt := 106) h d_States_doAfter_64 rfl ?_
        exact pf_vret h d_States_doAfter_106 (by simp [afG, *])
      refine pg_aload_n h d_States_doAfter_45 rfl ?_
      refine pg_iconst (v := 1) h d_States_doAfter_46 (by decide) ?_
      refine pf_putz 1 h ok d_States_doAfter_47 fw_States_22 (by first | rfl | exact hk | exact hk2 | exact dm12 _ | assumption) rfl (Nat.le_of_ble_eq_true rfl) rfl ?_
      try simp only [SC13, SC12, SC_12, SC_13, SC_6, SC_10, SC_14, SC_15, SC_16, SC_17]
      refine pg_goto (tgt := 106) h d_States_doAfter_50 rfl ?_
      exact pf_vret h d_States_doAfter_106 (by simp [afG, *])
    refine pg_iload_n h d_States_doAfter_21 rfl ?_
    refine pg_bipush (v := 23) h d_States_doAfter_22 (by decide) ?_
    refine pg_icmp_gt (tgt := 39) h d_States_doAfter_24 rfl (fun e24 => ?_) (fun e24 => ?_)
    · skip
      refine pg_iload_n h d_States_doAfter_39 rfl ?_
      refine pg_bipush (v := 8) h d_States_doAfter_40 (by decide) ?_
      refine pg_icmp_ne (tgt := 53) h d_States_doAfter_42 rfl (fun e42 => ?_) (fun e42 => ?_)
      · skip
        refine pg_iload_n h d_States_doAfter_53 rfl ?_
        refine pg_bipush (v := 10) h d_States_doAfter_54 (by decide) ?_
        refine pg_icmp_ne (tgt := 67) h d_States_doAfter_56 rfl (fun e56 => ?_) (fun e56 => ?_)
        · skip
          refine pg_iload_n h d_States_doAfter_67 rfl ?_
          refine pg_bipush (v := 11) h d_States_doAfter_68 (by decide) ?_
          refine pg_icmp_ne (tgt := 81) h d_States_doAfter_70 rfl (fun e70 => ?_) (fun e70 => ?_)
          · skip
            refine pg_iload_n h d_States_doAfter_81 rfl ?_
            refine pg_bipush (v := 13) h d_States_doAfter_82 (by decide) ?_
            refine pg_icmp_ne (tgt := 95) h d_States_doAfter_84 rfl (fun e84 => ?_) (fun e84 => ?_)
            · skip
              refine pg_iload_n h d_States_doAfter_95 rfl ?_
              refine pg_bipush (v := 31) h d_States_doAfter_96 (by decide) ?_
              refine pg_icmp_ne (tgt := 106) h d_States_doAfter_98 rfl (fun e98 => ?_) (fun e98 => ?_)
              · skip
                exact pf_vret h d_States_doAfter_106 (by simp [afG, *])
              refine pg_aload_n h d_States_doAfter_101 rfl ?_
              refine pg_iconst (v := 0) h d_States_doAfter_102 (by decide) ?_
              refine pf_putz 0 h ok d_States_doAfter_103 fw_States_37 (by first | rfl | exact hk | exact hk2 | exact dm12 _ | assumption) rfl (Nat.le_of_ble_eq_true rfl) rfl ?_
              try simp only [SC13, SC12, SC_12, SC_13, SC_6, SC_10, SC_14, SC_15, SC_16, SC_17]
              exact pf_vret h d_States_doAfter_106 (by simp [afG, *])
            refine pg_aload_n h d_States_doAfter_87 rfl ?_
            refine pg_iconst (v := 1) h d_States_doAfter_88 (by decide) ?_
            refine pf_cV0 h ok d_States_doAfter_89 m_States_turnDouble l_States_50 (c_tdG1 w ok S g u) cn_States (by first | rfl | exact hk | exact hk2 | exact dm12 _ | assumption) rfl rfl rfl (Nat.le_of_ble_eq_true rfl) ⟨(Nat.le_of_ble_eq_true rfl), (Nat.le_of_ble_eq_true rfl)⟩ ⟨Nat.le_refl _, Nat.le_refl _⟩ ?_
            try simp only [SC13, SC12, SC_12, SC_13, SC_6, SC_10, SC_14, SC_15, SC_16, SC_17]
            refine pg_goto (tgt := 106) h d_States_doAfter_92 rfl ?_
            exact pf_vret h d_States_doAfter_106 (by simp [afG, *])
          refine pg_aload_n h d_States_doAfter_73 rfl ?_
          refine pg_iconst (v := 1) h d_States_doAfter_74 (by decide) ?_
          refine pf_putz 1 h ok d_States_doAfter_75 fw_States_28 (by first | rfl | exact hk | exact hk2 | exact dm12 _ | assumption) rfl (Nat.le_of_ble_eq_true rfl) rfl ?_
          try simp only [SC13, SC12, SC_12, SC_13, SC_6, SC_10, SC_14, SC_15, SC_16, SC_17]
          refine pg_goto (tgt := 106) h d_States_doAfter_78 rfl ?_
          exact pf_vret h d_States_doAfter_106 (by simp [afG, *])
        refine pg_aload_n h d_States_doAfter_59 rfl ?_
        refine pg_iconst (v := 0) h d_States_doAfter_60 (by decide) ?_
        refine pf_putz 0 h ok d_States_doAfter_61 fw_States_28 (by first | rfl | exact hk | exact hk2 | exact dm12 _ | assumption) rfl (Nat.le_of_ble_eq_true rfl) rfl ?_
        try simp only [SC13, SC12, SC_12, SC_13, SC_6, SC_10, SC_14, SC_15, SC_16, SC_17]
        refine pg_goto (tgt := 106) h d_States_doAfter_64 rfl ?_
        exact pf_vret h d_States_doAfter_106 (by simp [afG, *])
      refine pg_aload_n h d_States_doAfter_45 rfl ?_
      refine pg_iconst (v := 1) h d_States_doAfter_46 (by decide) ?_
      refine pf_putz 1 h ok d_States_doAfter_47 fw_States_22 (by first | rfl | exact hk | exact hk2 | exact dm12 _ | assumption) rfl (Nat.le_of_ble_eq_true rfl) rfl ?_
      try simp only [SC13, SC12, SC_12, SC_13, SC_6, SC_10, SC_14, SC_15, SC_16, SC_17]
      refine pg_goto (tgt := 106) h d_States_doAfter_50 rfl ?_
      exact pf_vret h d_States_doAfter_106 (by simp [afG, *])
    refine pg_aload_n h d_States_doAfter_27 rfl ?_
    refine pg_iload_n h d_States_doAfter_28 rfl ?_
    refine pg_bipush (v := 16) h d_States_doAfter_29 (by decide) ?_
    refine pg_isub h d_States_doAfter_31 ?_
    refine pg_iconst (v := 1) h d_States_doAfter_32 (by decide) ?_
    refine pf_cV0 h ok d_States_doAfter_33 m_States_takeColour l_States_54 (c_tcG1 w ok S g u _) cn_States (by first | rfl | exact hk | exact hk2 | exact dm12 _ | assumption) rfl rfl rfl (Nat.le_of_ble_eq_true rfl) ⟨(Nat.le_of_ble_eq_true rfl), (Nat.le_of_ble_eq_true rfl)⟩ ⟨Nat.le_refl _, Nat.le_refl _⟩ ?_
    try simp only [SC13, SC12, SC_12, SC_13, SC_6, SC_10, SC_14, SC_15, SC_16, SC_17]
    refine pg_goto (tgt := 106) h d_States_doAfter_36 rfl ?_
    exact pf_vret h d_States_doAfter_106 (by simp [afG, *])
  refine pg_aload_n h d_States_doAfter_6 rfl ?_
  refine pg_iload_n h d_States_doAfter_7 rfl ?_
  refine pg_iconst (v := 0) h d_States_doAfter_8 (by decide) ?_
  refine pf_cV0 h ok d_States_doAfter_9 m_States_takeColour l_States_54 (c_tcG0 w ok S g u m) cn_States (by first | rfl | exact hk | exact hk2 | exact dm12 _ | assumption) rfl rfl rfl (Nat.le_of_ble_eq_true rfl) ⟨(Nat.le_of_ble_eq_true rfl), (Nat.le_of_ble_eq_true rfl)⟩ ⟨Nat.le_refl _, Nat.le_refl _⟩ ?_
  try simp only [SC13, SC12, SC_12, SC_13, SC_6, SC_10, SC_14, SC_15, SC_16, SC_17]
  refine pg_goto (tgt := 106) h d_States_doAfter_12 rfl ?_
  exact pf_vret h d_States_doAfter_106 (by simp [afG, *])

set_option maxRecDepth 100000 in
set_option maxHeartbeats 4000000 in
theorem c_States_sum (w : pf_W) (ok : pf_ok w) (S : pf_S) (g u : Nat → Int32)  : pf_C w y_States_sum b_States_sum 1 (some .int) 0 0 [.ref (w.2.1 13 0)] (SC S g u) (some (.int (smG g))) (SC S g u) := by
  refine pf_enter (by decide) (Nat.le_of_ble_eq_true rfl) (lv0 := [some (.ref (w.2.1 13 0))]) rfl (fun κ h => ?_)
  refine pg_aload_n h d_States_sum_0 rfl ?_
  refine pf_get h ok d_States_sum_1 f_States_22 (by first | rfl | exact hk | exact hk2 | exact dm12 _ | assumption) rfl rfl ?_
  try simp only [SC13, SC12, SC_12, SC_13, SC_6, SC_10, SC_14, SC_15, SC_16, SC_17]
  refine pg_if_eq (tgt := 12) h d_States_sum_4 rfl (fun e4 => ?_) (fun e4 => ?_)
  · skip
    refine pg_iconst (v := 0) h d_States_sum_12 (by decide) ?_
    refine pg_aload_n h d_States_sum_13 rfl ?_
    refine pf_get h ok d_States_sum_14 f_States_25 (by first | rfl | exact hk | exact hk2 | exact dm12 _ | assumption) rfl rfl ?_
    try simp only [SC13, SC12, SC_12, SC_13, SC_6, SC_10, SC_14, SC_15, SC_16, SC_17]
    refine pg_if_eq (tgt := 25) h d_States_sum_17 rfl (fun e17 => ?_) (fun e17 => ?_)
    · skip
      refine pg_iconst (v := 0) h d_States_sum_25 (by decide) ?_
      refine pg_iadd h d_States_sum_26 ?_
      refine pg_aload_n h d_States_sum_27 rfl ?_
      refine pf_get h ok d_States_sum_28 f_States_28 (by first | rfl | exact hk | exact hk2 | exact dm12 _ | assumption) rfl rfl ?_
      try simp only [SC13, SC12, SC_12, SC_13, SC_6, SC_10, SC_14, SC_15, SC_16, SC_17]
      refine pg_if_eq (tgt := 39) h d_States_sum_31 rfl (fun e31 => ?_) (fun e31 => ?_)
      · skip
        refine pg_iconst (v := 0) h d_States_sum_39 (by decide) ?_
        refine pg_iadd h d_States_sum_40 ?_
        exact pf_iret h d_States_sum_41 rfl (by simp [smG, *]) rfl
      refine pg_bipush (v := 64) h d_States_sum_34 (by decide) ?_
      refine pg_goto (tgt := 40) h d_States_sum_36 rfl ?_
      refine pg_iadd h d_States_sum_40 ?_
      exact pf_iret h d_States_sum_41 rfl (by simp [smG, *]) rfl
    refine pg_bipush (v := 32) h d_States_sum_20 (by decide) ?_
    refine pg_goto (tgt := 26) h d_States_sum_22 rfl ?_
    refine pg_iadd h d_States_sum_26 ?_
    refine pg_aload_n h d_States_sum_27 rfl ?_
    refine pf_get h ok d_States_sum_28 f_States_28 (by first | rfl | exact hk | exact hk2 | exact dm12 _ | assumption) rfl rfl ?_
    try simp only [SC13, SC12, SC_12, SC_13, SC_6, SC_10, SC_14, SC_15, SC_16, SC_17]
    refine pg_if_eq (tgt := 39) h d_States_sum_31 rfl (fun e31 => ?_) (fun e31 => ?_)
    · skip
      refine pg_iconst (v := 0) h d_States_sum_39 (by decide) ?_
      refine pg_iadd h d_States_sum_40 ?_
      exact pf_iret h d_States_sum_41 rfl (by simp [smG, *]) rfl
    refine pg_bipush (v := 64) h d_States_sum_34 (by decide) ?_
    refine pg_goto (tgt := 40) h d_States_sum_36 rfl ?_
    refine pg_iadd h d_States_sum_40 ?_
    exact pf_iret h d_States_sum_41 rfl (by simp [smG, *]) rfl
  refine pg_bipush (v := 16) h d_States_sum_7 (by decide) ?_
  refine pg_goto (tgt := 13) h d_States_sum_9 rfl ?_
  refine pg_aload_n h d_States_sum_13 rfl ?_
  refine pf_get h ok d_States_sum_14 f_States_25 (by first | rfl | exact hk | exact hk2 | exact dm12 _ | assumption) rfl rfl ?_
  try simp only [SC13, SC12, SC_12, SC_13, SC_6, SC_10, SC_14, SC_15, SC_16, SC_17]
  refine pg_if_eq (tgt := 25) h d_States_sum_17 rfl (fun e17 => ?_) (fun e17 => ?_)
  · skip
    refine pg_iconst (v := 0) h d_States_sum_25 (by decide) ?_
    refine pg_iadd h d_States_sum_26 ?_
    refine pg_aload_n h d_States_sum_27 rfl ?_
    refine pf_get h ok d_States_sum_28 f_States_28 (by first | rfl | exact hk | exact hk2 | exact dm12 _ | assumption) rfl rfl ?_
    try simp only [SC13, SC12, SC_12, SC_13, SC_6, SC_10, SC_14, SC_15, SC_16, SC_17]
    refine pg_if_eq (tgt := 39) h d_States_sum_31 rfl (fun e31 => ?_) (fun e31 => ?_)
    · skip
      refine pg_iconst (v := 0) h d_States_sum_39 (by decide) ?_
      refine pg_iadd h d_States_sum_40 ?_
      exact pf_iret h d_States_sum_41 rfl (by simp [smG, *]) rfl
    refine pg_bipush (v := 64) h d_States_sum_34 (by decide) ?_
    refine pg_goto (tgt := 40) h d_States_sum_36 rfl ?_
    refine pg_iadd h d_States_sum_40 ?_
    exact pf_iret h d_States_sum_41 rfl (by simp [smG, *]) rfl
  refine pg_bipush (v := 32) h d_States_sum_20 (by decide) ?_
  refine pg_goto (tgt := 26) h d_States_sum_22 rfl ?_
  refine pg_iadd h d_States_sum_26 ?_
  refine pg_aload_n h d_States_sum_27 rfl ?_
  refine pf_get h ok d_States_sum_28 f_States_28 (by first | rfl | exact hk | exact hk2 | exact dm12 _ | assumption) rfl rfl ?_
  try simp only [SC13, SC12, SC_12, SC_13, SC_6, SC_10, SC_14, SC_15, SC_16, SC_17]
  refine pg_if_eq (tgt := 39) h d_States_sum_31 rfl (fun e31 => ?_) (fun e31 => ?_)
  · skip
    refine pg_iconst (v := 0) h d_States_sum_39 (by decide) ?_
    refine pg_iadd h d_States_sum_40 ?_
    exact pf_iret h d_States_sum_41 rfl (by simp [smG, *]) rfl
  refine pg_bipush (v := 64) h d_States_sum_34 (by decide) ?_
  refine pg_goto (tgt := 40) h d_States_sum_36 rfl ?_
  refine pg_iadd h d_States_sum_40 ?_
  exact pf_iret h d_States_sum_41 rfl (by simp [smG, *]) rfl
end
section
/-! Screen: what is told of a cell. -/
section PGANY
variable {κ : pg_K} {z : pg_Z} {y : MethodName} {cc : ByteArray} {nL : Nat} {ret : Option FieldType} {rm : Room} {ce sl : Nat} {Q : State → Prop} {Pic : Heap → Prop} {pc : Nat} {lv : List (Option Value)} {st : List Value}
/-- a reference or null is loaded -/
theorem pg_aloadP {j : Fin 4} {w : pf_W} {o : Option Nat} (h : pg_X κ z y cc nL ret rm) (d : decode cc pc = .ok (.aload_n j, 1)) (hi : lv[(j : Nat)]? = some (some (pgV w o))) (k : pg_G κ z nL ce sl Q Pic (pc + 1) lv (pgV w o :: st)) : pg_G κ z nL ce sl Q Pic pc lv st := by
  cases o with
  | none => exact pg_aload_nN h d hi k
  | some q => exact pg_aload_n h d hi k
end PGANY
theorem q_r0 {r : Nat} (h : r < 8) : (nI r = 0) = (r = 0) := propext (show nI r = nI 0 ↔ r = 0 from nI_eq (by omega) (by decide))
theorem q_c8 {c : Nat} (h : c < 20) : ((8 : Int32) ≤ nI c) = ¬ c < 8 := propext (show nI 8 ≤ nI c ↔ ¬ c < 8 from (nI_leI (by decide) (by omega)).trans Nat.not_lt.symm)
def dgL (d : Int32) : Int32 := if 10 ≤ d then 65 + d - 10 else 48 + d
/-- Screen.headLetter -/
def hdV (S : pf_S) (x : Int32) : Int32 := if x = 0 then 80 else if x = 1 then dgL (if S 6 0 2 / 256 - S 6 0 2 / 256 / 8 * 8 = 0 then 8 else S 6 0 2 / 256 - S 6 0 2 / 256 / 8 * 8) else if x = 2 then dgL (S 6 0 2 / 16 - S 6 0 2 / 16 / 16 * 16) else if x = 3 then dgL (S 6 0 2 - S 6 0 2 / 16 * 16) else 32
/-- Screen.letterAt -/
def ltV (S : pf_S) (o : Option Nat) (r c : Nat) : Int32 := if r = 0 ∧ c < 8 then hdV S (nI c) else match o with
  | none => if r = 0 then S 10 0 c else 32
  | some k => S 15 k (r * 20 + c)
/-- Screen.overlayAt -/
def ovV (S : pf_S) (o : Option Nat) (r c : Nat) : Int32 := if r = 0 ∧ c < 8 then 0 else match o with
  | none => 0
  | some k => S 16 k (r * 20 + c)

set_option maxRecDepth 100000 in
set_option maxHeartbeats 4000000 in
theorem c_Screen_digitLetter (w : pf_W) (ok : pf_ok w) (S : pf_S) (d : Int32) : pf_C w y_Screen_digitLetter b_Screen_digitLetter 1 (some .int) 0 0 [.int d] S (some (.int (dgL d))) (S) := by
  refine pf_enter (by decide) (Nat.le_of_ble_eq_true rfl) (lv0 := [some (.int d)]) rfl (fun κ h => ?_)
  refine pg_iload_n h d_Screen_digitLetter_0 rfl ?_
  refine pg_bipush (v := 10) h d_Screen_digitLetter_1 (by decide) ?_
  refine pg_icmp_ge (tgt := 13) h d_Screen_digitLetter_3 rfl (fun e3 => ?_) (fun e3 => ?_)
  · skip
    refine pg_bipush (v := 65) h d_Screen_digitLetter_13 (by decide) ?_
    refine pg_iload_n h d_Screen_digitLetter_15 rfl ?_
    refine pg_iadd h d_Screen_digitLetter_16 ?_
    refine pg_bipush (v := 10) h d_Screen_digitLetter_17 (by decide) ?_
    refine pg_isub h d_Screen_digitLetter_19 ?_
    exact pf_iret h d_Screen_digitLetter_20 rfl (by simp [dgL, *]) rfl
  refine pg_bipush (v := 48) h d_Screen_digitLetter_6 (by decide) ?_
  refine pg_iload_n h d_Screen_digitLetter_8 rfl ?_
  refine pg_iadd h d_Screen_digitLetter_9 ?_
  refine pg_goto (tgt := 20) h d_Screen_digitLetter_10 rfl ?_
  exact pf_iret h d_Screen_digitLetter_20 rfl (by simp [dgL, *]) rfl

set_option maxRecDepth 100000 in
set_option maxHeartbeats 4000000 in
theorem c_Screen_headLetter (w : pf_W) (ok : pf_ok w) (S : pf_S) (g u : Nat → Int32) (x : Int32) : pf_C w y_Screen_headLetter b_Screen_headLetter 3 (some .int) 1 20 [.ref (w.2.1 12 0), .int x] (SC S g u) (some (.int (hdV S x))) (SC S g u) := by
  refine pf_enter (by decide) (Nat.le_of_ble_eq_true rfl) (lv0 := [some (.ref (w.2.1 12 0)), some (.int x), none]) rfl (fun κ h => ?_)
  refine pg_aload_n h d_Screen_headLetter_0 rfl ?_
  refine pf_get h ok d_Screen_headLetter_1 f_Screen_22 (by first | rfl | exact hk | exact hk2 | exact dm12 _ | assumption) rfl rfl ?_
  try simp only [SC13, SC12, SC_12, SC_13, SC_6, SC_10, SC_14, SC_15, SC_16, SC_17]
  refine pf_get h ok d_Screen_headLetter_4 f_Screen_66 (by first | rfl | exact hk | exact hk2 | exact dm12 _ | assumption) rfl rfl ?_
  try simp only [SC13, SC12, SC_12, SC_13, SC_6, SC_10, SC_14, SC_15, SC_16, SC_17]
  refine pg_sipush (v := 256) h d_Screen_headLetter_7 (by decide) ?_
  refine pg_idiv h d_Screen_headLetter_10 (by decide) ?_
  refine pg_bipush (v := 8) h d_Screen_headLetter_11 (by decide) ?_
  refine pg_irem h d_Screen_headLetter_13 (by decide) ?_
  refine pg_istore_n h d_Screen_headLetter_14 (Nat.le_of_ble_eq_true rfl) rfl rfl ?_
  refine pg_iload_n h d_Screen_headLetter_15 rfl ?_
  by_cases c16_0 : x = 0
  · refine pg_tableIn (off := 32) (tgt := 48) h d_Screen_headLetter_16 (by rw [c16_0]; decide) (by rw [c16_0]; decide) (by rw [c16_0]; rfl) rfl ?_
    refine pg_bipush (v := 80) h d_Screen_headLetter_48 (by decide) ?_
    exact pf_iret h d_Screen_headLetter_50 rfl (by simp [hdV, *]) rfl
  by_cases c16_1 : x = 1
  · refine pg_tableIn (off := 35) (tgt := 51) h d_Screen_headLetter_16 (by rw [c16_1]; decide) (by rw [c16_1]; decide) (by rw [c16_1]; rfl) rfl ?_
    refine pg_iload_n h d_Screen_headLetter_51 rfl ?_
    refine pg_if_ne (tgt := 60) h d_Screen_headLetter_52 rfl (fun e52 => ?_) (fun e52 => ?_)
    · skip
      refine pg_iload_n h d_Screen_headLetter_60 rfl ?_
      refine pg_cS h d_Screen_headLetter_61 m_Screen_digitLetter l_Screen_70 (c_Screen_digitLetter w ok _ _) rfl rfl (Nat.le_of_ble_eq_true rfl) ⟨(Nat.le_of_ble_eq_true rfl), (Nat.le_of_ble_eq_true rfl)⟩ ⟨Nat.le_refl _, Nat.le_refl _⟩ ?_
      try simp only [SC13, SC12, SC_12, SC_13, SC_6, SC_10, SC_14, SC_15, SC_16, SC_17]
      exact pf_iret h d_Screen_headLetter_64 rfl (by simp [hdV, *]) rfl
    refine pg_bipush (v := 8) h d_Screen_headLetter_55 (by decide) ?_
    refine pg_goto (tgt := 61) h d_Screen_headLetter_57 rfl ?_
    refine pg_cS h d_Screen_headLetter_61 m_Screen_digitLetter l_Screen_70 (c_Screen_digitLetter w ok _ _) rfl rfl (Nat.le_of_ble_eq_true rfl) ⟨(Nat.le_of_ble_eq_true rfl), (Nat.le_of_ble_eq_true rfl)⟩ ⟨Nat.le_refl _, Nat.le_refl _⟩ ?_
    try simp only [SC13, SC12, SC_12, SC_13, SC_6, SC_10, SC_14, SC_15, SC_16, SC_17]
    exact pf_iret h d_Screen_headLetter_64 rfl (by simp [hdV, *]) rfl
  by_cases c16_2 : x = 2
  · refine pg_tableIn (off := 49) (tgt := 65) h d_Screen_headLetter_16 (by rw [c16_2]; decide) (by rw [c16_2]; decide) (by rw [c16_2]; rfl) rfl ?_
    refine pg_aload_n h d_Screen_headLetter_65 rfl ?_
    refine pf_get h ok d_Screen_headLetter_66 f_Screen_22 (by first | rfl | exact hk | exact hk2 | exact dm12 _ | assumption) rfl rfl ?_
    try simp only [SC13, SC12, SC_12, SC_13, SC_6, SC_10, SC_14, SC_15, SC_16, SC_17]
    refine pf_get h ok d_Screen_headLetter_69 f_Screen_66 (by first | rfl | exact hk | exact hk2 | exact dm12 _ | assumption) rfl rfl ?_
    try simp only [SC13, SC12, SC_12, SC_13, SC_6, SC_10, SC_14, SC_15, SC_16, SC_17]
    refine pg_bipush (v := 16) h d_Screen_headLetter_72 (by decide) ?_
    refine pg_idiv h d_Screen_headLetter_74 (by decide) ?_
    refine pg_bipush (v := 16) h d_Screen_headLetter_75 (by decide) ?_
    refine pg_irem h d_Screen_headLetter_77 (by decide) ?_
    refine pg_cS h d_Screen_headLetter_78 m_Screen_digitLetter l_Screen_70 (c_Screen_digitLetter w ok _ _) rfl rfl (Nat.le_of_ble_eq_true rfl) ⟨(Nat.le_of_ble_eq_true rfl), (Nat.le_of_ble_eq_true rfl)⟩ ⟨Nat.le_refl _, Nat.le_refl _⟩ ?_
    try simp only [SC13, SC12, SC_12, SC_13, SC_6, SC_10, SC_14, SC_15, SC_16, SC_17]
    exact pf_iret h d_Screen_headLetter_81 rfl (by simp [hdV, *]) rfl
  by_cases c16_3 : x = 3
  · refine pg_tableIn (off := 66) (tgt := 82) h d_Screen_headLetter_16 (by rw [c16_3]; decide) (by rw [c16_3]; decide) (by rw [c16_3]; rfl) rfl ?_
    refine pg_aload_n h d_Screen_headLetter_82 rfl ?_
    refine pf_get h ok d_Screen_headLetter_83 f_Screen_22 (by first | rfl | exact hk | exact hk2 | exact dm12 _ | assumption) rfl rfl ?_
    try simp only [SC13, SC12, SC_12, SC_13, SC_6, SC_10, SC_14, SC_15, SC_16, SC_17]
    refine pf_get h ok d_Screen_headLetter_86 f_Screen_66 (by first | rfl | exact hk | exact hk2 | exact dm12 _ | assumption) rfl rfl ?_
    try simp only [SC13, SC12, SC_12, SC_13, SC_6, SC_10, SC_14, SC_15, SC_16, SC_17]
    refine pg_bipush (v := 16) h d_Screen_headLetter_89 (by decide) ?_
    refine pg_irem h d_Screen_headLetter_91 (by decide) ?_
    refine pg_cS h d_Screen_headLetter_92 m_Screen_digitLetter l_Screen_70 (c_Screen_digitLetter w ok _ _) rfl rfl (Nat.le_of_ble_eq_true rfl) ⟨(Nat.le_of_ble_eq_true rfl), (Nat.le_of_ble_eq_true rfl)⟩ ⟨Nat.le_refl _, Nat.le_refl _⟩ ?_
    try simp only [SC13, SC12, SC_12, SC_13, SC_6, SC_10, SC_14, SC_15, SC_16, SC_17]
    exact pf_iret h d_Screen_headLetter_95 rfl (by simp [hdV, *]) rfl
  have o16 : ∀ j : Nat, j ≤ 3 → ¬ x = nI j := by
    intro j hj
    rcases (show j = 0 ∨ j = 1 ∨ j = 2 ∨ j = 3 by omega) with rfl | rfl | rfl | rfl
    · exact c16_0
    · exact c16_1
    · exact c16_2
    · exact c16_3
  refine pg_tableOut (tgt := 96) h d_Screen_headLetter_16 (sw_out 3 (by decide) o16) rfl ?_
  refine pg_bipush (v := 32) h d_Screen_headLetter_96 (by decide) ?_
  exact pf_iret h d_Screen_headLetter_98 rfl (by simp [hdV, *]) rfl

set_option maxRecDepth 100000 in
set_option maxHeartbeats 4000000 in
theorem c_Screen_letterAt (w : pf_W) (ok : pf_ok w) (S : pf_S) (g u : Nat → Int32) (o : Option Nat) (ho : ∀ k, o = some k → pf_dm w.2.2.1 14 k = true) (r c : Nat) (hr : r < 8) (hc : c < 20) : pf_C w y_Screen_letterAt b_Screen_letterAt 4 (some .int) 2 43 [.ref (w.2.1 12 0), pgV w o, .int (nI r), .int (nI c)] (SC S g u) (some (.int (ltV S o r c))) (SC S g u) := by
  refine pf_enter (by decide) (by cases o <;> exact Nat.le_of_ble_eq_true rfl) (lv0 := [some (.ref (w.2.1 12 0)), some (pgV w o), some (.int (nI r)), some (.int (nI c))]) (by cases o <;> rfl) (fun κ h => ?_)
  cases o with
  | none =>
    refine pg_iload_n h d_Screen_letterAt_0 rfl ?_
    refine pg_if_ne (tgt := 16) h d_Screen_letterAt_1 rfl (fun e1 => ?_) (fun e1 => ?_)
    · skip
      refine pg_aload_nN h d_Screen_letterAt_16 rfl ?_
      refine pg_ifnullN (tgt := 27) h d_Screen_letterAt_17 rfl ?_
      refine pg_iload_n h d_Screen_letterAt_27 rfl ?_
      refine pg_if_ne (tgt := 46) h d_Screen_letterAt_28 rfl (fun e28 => ?_) (fun e28 => ?_)
      · skip
        refine pg_bipush (v := 32) h d_Screen_letterAt_46 (by decide) ?_
        exact pf_iret h d_Screen_letterAt_48 rfl (by have q1 := q_r0 hr; have q2 := q_c8 hc; simp only [q1, q2] at *; first | contradiction | simp [ltV, *]) rfl
      refine pg_iload_n h d_Screen_letterAt_31 rfl ?_
      refine pg_bipush (v := 20) h d_Screen_letterAt_32 (by decide) ?_
      refine pg_icmp_ge (tgt := 46) h d_Screen_letterAt_34 rfl (fun e34 => absurd e34 (nI_ge hc (by decide))) (fun e34 => ?_)
      refine pg_aload_n h d_Screen_letterAt_37 rfl ?_
      refine pf_get h ok d_Screen_letterAt_38 f_Screen_26 (by first | rfl | exact hk | exact hk2 | exact dm12 _ | assumption) rfl rfl ?_
      try simp only [SC13, SC12, SC_12, SC_13, SC_6, SC_10, SC_14, SC_15, SC_16, SC_17]
      refine pg_iload_n h d_Screen_letterAt_41 rfl ?_
      refine pf_ild h ok d_Screen_letterAt_42 (by first | rfl | exact hk | exact hk2 | exact dm12 _ | assumption) rfl (pg_ixN rfl hc (by decide)) ?_
      try simp only [SC13, SC12, SC_12, SC_13, SC_6, SC_10, SC_14, SC_15, SC_16, SC_17]
      refine pg_goto (tgt := 48) h d_Screen_letterAt_43 rfl ?_
      exact pf_iret h d_Screen_letterAt_48 rfl (by have q1 := q_r0 hr; have q2 := q_c8 hc; simp only [q1, q2] at *; first | contradiction | simp [ltV, *]) rfl
    refine pg_iload_n h d_Screen_letterAt_4 rfl ?_
    refine pg_bipush (v := 8) h d_Screen_letterAt_5 (by decide) ?_
    refine pg_icmp_ge (tgt := 16) h d_Screen_letterAt_7 rfl (fun e7 => ?_) (fun e7 => ?_)
    · skip
      refine pg_aload_nN h d_Screen_letterAt_16 rfl ?_
      refine pg_ifnullN (tgt := 27) h d_Screen_letterAt_17 rfl ?_
      refine pg_iload_n h d_Screen_letterAt_27 rfl ?_
      refine pg_if_ne (tgt := 46) h d_Screen_letterAt_28 rfl (fun e28 => ?_) (fun e28 => ?_)
      · skip
        refine pg_bipush (v := 32) h d_Screen_letterAt_46 (by decide) ?_
        exact pf_iret h d_Screen_letterAt_48 rfl (by have q1 := q_r0 hr; have q2 := q_c8 hc; simp only [q1, q2] at *; first | contradiction | simp [ltV, *]) rfl
      refine pg_iload_n h d_Screen_letterAt_31 rfl ?_
      refine pg_bipush (v := 20) h d_Screen_letterAt_32 (by decide) ?_
      refine pg_icmp_ge (tgt := 46) h d_Screen_letterAt_34 rfl (fun e34 => absurd e34 (nI_ge hc (by decide))) (fun e34 => ?_)
      refine pg_aload_n h d_Screen_letterAt_37 rfl ?_
      refine pf_get h ok d_Screen_letterAt_38 f_Screen_26 (by first | rfl | exact hk | exact hk2 | exact dm12 _ | assumption) rfl rfl ?_
      try simp only [SC13, SC12, SC_12, SC_13, SC_6, SC_10, SC_14, SC_15, SC_16, SC_17]
      refine pg_iload_n h d_Screen_letterAt_41 rfl ?_
      refine pf_ild h ok d_Screen_letterAt_42 (by first | rfl | exact hk | exact hk2 | exact dm12 _ | assumption) rfl (pg_ixN rfl hc (by decide)) ?_
      try simp only [SC13, SC12, SC_12, SC_13, SC_6, SC_10, SC_14, SC_15, SC_16, SC_17]
      refine pg_goto (tgt := 48) h d_Screen_letterAt_43 rfl ?_
      exact pf_iret h d_Screen_letterAt_48 rfl (by have q1 := q_r0 hr; have q2 := q_c8 hc; simp only [q1, q2] at *; first | contradiction | simp [ltV, *]) rfl
    refine pg_aload_n h d_Screen_letterAt_10 rfl ?_
    refine pg_iload_n h d_Screen_letterAt_11 rfl ?_
    refine pf_cV h ok d_Screen_letterAt_12 m_Screen_headLetter l_Screen_57 (c_Screen_headLetter w ok S g u _) cn_Screen (by first | rfl | exact hk | exact hk2 | exact dm12 _ | assumption) rfl rfl rfl (Nat.le_of_ble_eq_true rfl) ⟨(Nat.le_of_ble_eq_true rfl), (Nat.le_of_ble_eq_true rfl)⟩ ⟨Nat.le_refl _, Nat.le_refl _⟩ ?_
    try simp only [SC13, SC12, SC_12, SC_13, SC_6, SC_10, SC_14, SC_15, SC_16, SC_17]
    exact pf_iret h d_Screen_letterAt_15 rfl (by have q1 := q_r0 hr; have q2 := q_c8 hc; simp only [q1, q2] at *; first | contradiction | simp [ltV, *]) rfl
  | some k =>
    have hk : pf_dm w.2.2.1 14 k = true := ho k rfl
    refine pg_iload_n h d_Screen_letterAt_0 rfl ?_
    refine pg_if_ne (tgt := 16) h d_Screen_letterAt_1 rfl (fun e1 => ?_) (fun e1 => ?_)
    · skip
      refine pg_aload_n h d_Screen_letterAt_16 rfl ?_
      refine pg_ifnull h d_Screen_letterAt_17 ?_
      refine pg_aload_n h d_Screen_letterAt_20 rfl ?_
      refine pg_iload_n h d_Screen_letterAt_21 rfl ?_
      refine pg_iload_n h d_Screen_letterAt_22 rfl ?_
      refine pf_cV h ok d_Screen_letterAt_23 m_Page_letterAt l_Screen_61 (c_Page_letterAt w ok _ k hk r c hr hc) cn_Page (by first | rfl | exact hk | exact hk2 | exact dm12 _ | assumption) rfl rfl rfl (Nat.le_of_ble_eq_true rfl) ⟨(Nat.le_of_ble_eq_true rfl), (Nat.le_of_ble_eq_true rfl)⟩ ⟨Nat.le_refl _, Nat.le_refl _⟩ ?_
      try simp only [SC13, SC12, SC_12, SC_13, SC_6, SC_10, SC_14, SC_15, SC_16, SC_17]
      exact pf_iret h d_Screen_letterAt_26 rfl (by have q1 := q_r0 hr; have q2 := q_c8 hc; simp only [q1, q2] at *; first | contradiction | simp [ltV, *]) rfl
    refine pg_iload_n h d_Screen_letterAt_4 rfl ?_
    refine pg_bipush (v := 8) h d_Screen_letterAt_5 (by decide) ?_
    refine pg_icmp_ge (tgt := 16) h d_Screen_letterAt_7 rfl (fun e7 => ?_) (fun e7 => ?_)
    · skip
      refine pg_aload_n h d_Screen_letterAt_16 rfl ?_
      refine pg_ifnull h d_Screen_letterAt_17 ?_
      refine pg_aload_n h d_Screen_letterAt_20 rfl ?_
      refine pg_iload_n h d_Screen_letterAt_21 rfl ?_
      refine pg_iload_n h d_Screen_letterAt_22 rfl ?_
      refine pf_cV h ok d_Screen_letterAt_23 m_Page_letterAt l_Screen_61 (c_Page_letterAt w ok _ k hk r c hr hc) cn_Page (by first | rfl | exact hk | exact hk2 | exact dm12 _ | assumption) rfl rfl rfl (Nat.le_of_ble_eq_true rfl) ⟨(Nat.le_of_ble_eq_true rfl), (Nat.le_of_ble_eq_true rfl)⟩ ⟨Nat.le_refl _, Nat.le_refl _⟩ ?_
      try simp only [SC13, SC12, SC_12, SC_13, SC_6, SC_10, SC_14, SC_15, SC_16, SC_17]
      exact pf_iret h d_Screen_letterAt_26 rfl (by have q1 := q_r0 hr; have q2 := q_c8 hc; simp only [q1, q2] at *; first | contradiction | simp [ltV, *]) rfl
    refine pg_aload_n h d_Screen_letterAt_10 rfl ?_
    refine pg_iload_n h d_Screen_letterAt_11 rfl ?_
    refine pf_cV h ok d_Screen_letterAt_12 m_Screen_headLetter l_Screen_57 (c_Screen_headLetter w ok S g u _) cn_Screen (by first | rfl | exact hk | exact hk2 | exact dm12 _ | assumption) rfl rfl rfl (Nat.le_of_ble_eq_true rfl) ⟨(Nat.le_of_ble_eq_true rfl), (Nat.le_of_ble_eq_true rfl)⟩ ⟨Nat.le_refl _, Nat.le_refl _⟩ ?_
    try simp only [SC13, SC12, SC_12, SC_13, SC_6, SC_10, SC_14, SC_15, SC_16, SC_17]
    exact pf_iret h d_Screen_letterAt_15 rfl (by have q1 := q_r0 hr; have q2 := q_c8 hc; simp only [q1, q2] at *; first | contradiction | simp [ltV, *]) rfl

set_option maxRecDepth 100000 in
set_option maxHeartbeats 4000000 in
theorem c_Screen_overlayAt (w : pf_W) (ok : pf_ok w) (S : pf_S) (g u : Nat → Int32) (o : Option Nat) (ho : ∀ k, o = some k → pf_dm w.2.2.1 14 k = true) (r c : Nat) (hr : r < 8) (hc : c < 20) : pf_C w y_Screen_overlayAt b_Screen_overlayAt 4 (some .int) 2 43 [pgV w o, .int (nI r), .int (nI c)] (SC S g u) (some (.int (ovV S o r c))) (SC S g u) := by
  refine pf_enter (by decide) (by cases o <;> exact Nat.le_of_ble_eq_true rfl) (lv0 := [some (pgV w o), some (.int (nI r)), some (.int (nI c)), none]) (by cases o <;> rfl) (fun κ h => ?_)
  cases o with
  | none =>
    refine pg_iload_n h d_Screen_overlayAt_0 rfl ?_
    refine pg_if_ne (tgt := 14) h d_Screen_overlayAt_1 rfl (fun e1 => ?_) (fun e1 => ?_)
    · skip
      refine pg_iconst (v := 0) h d_Screen_overlayAt_14 (by decide) ?_
      refine pg_istore_n h d_Screen_overlayAt_15 (Nat.le_of_ble_eq_true rfl) rfl rfl ?_
      refine pg_aload_nN h d_Screen_overlayAt_16 rfl ?_
      refine pg_ifnullN (tgt := 24) h d_Screen_overlayAt_17 rfl ?_
      refine pg_iconst (v := 0) h d_Screen_overlayAt_24 (by decide) ?_
      refine pg_goto (tgt := 34) h d_Screen_overlayAt_25 rfl ?_
      exact pf_iret h d_Screen_overlayAt_34 rfl (by first | exact absurd rfl e21 | exact absurd e21 (by decide) | (have q1 := q_r0 hr; have q2 := q_c8 hc; simp only [q1, q2] at *; simp [ovV, *])) rfl
    refine pg_iload_n h d_Screen_overlayAt_4 rfl ?_
    refine pg_bipush (v := 8) h d_Screen_overlayAt_5 (by decide) ?_
    refine pg_icmp_ge (tgt := 14) h d_Screen_overlayAt_7 rfl (fun e7 => ?_) (fun e7 => ?_)
    · skip
      refine pg_iconst (v := 0) h d_Screen_overlayAt_14 (by decide) ?_
      refine pg_istore_n h d_Screen_overlayAt_15 (Nat.le_of_ble_eq_true rfl) rfl rfl ?_
      refine pg_aload_nN h d_Screen_overlayAt_16 rfl ?_
      refine pg_ifnullN (tgt := 24) h d_Screen_overlayAt_17 rfl ?_
      refine pg_iconst (v := 0) h d_Screen_overlayAt_24 (by decide) ?_
      refine pg_goto (tgt := 34) h d_Screen_overlayAt_25 rfl ?_
      exact pf_iret h d_Screen_overlayAt_34 rfl (by first | exact absurd rfl e21 | exact absurd e21 (by decide) | (have q1 := q_r0 hr; have q2 := q_c8 hc; simp only [q1, q2] at *; simp [ovV, *])) rfl
    refine pg_iconst (v := 1) h d_Screen_overlayAt_10 (by decide) ?_
    refine pg_goto (tgt := 15) h d_Screen_overlayAt_11 rfl ?_
    refine pg_istore_n h d_Screen_overlayAt_15 (Nat.le_of_ble_eq_true rfl) rfl rfl ?_
    refine pg_aload_nN h d_Screen_overlayAt_16 rfl ?_
    refine pg_ifnullN (tgt := 24) h d_Screen_overlayAt_17 rfl ?_
    refine pg_iconst (v := 0) h d_Screen_overlayAt_24 (by decide) ?_
    refine pg_goto (tgt := 34) h d_Screen_overlayAt_25 rfl ?_
    exact pf_iret h d_Screen_overlayAt_34 rfl (by first | exact absurd rfl e21 | exact absurd e21 (by decide) | (have q1 := q_r0 hr; have q2 := q_c8 hc; simp only [q1, q2] at *; simp [ovV, *])) rfl
  | some k =>
    have hk : pf_dm w.2.2.1 14 k = true := ho k rfl
    refine pg_iload_n h d_Screen_overlayAt_0 rfl ?_
    refine pg_if_ne (tgt := 14) h d_Screen_overlayAt_1 rfl (fun e1 => ?_) (fun e1 => ?_)
    · skip
      refine pg_iconst (v := 0) h d_Screen_overlayAt_14 (by decide) ?_
      refine pg_istore_n h d_Screen_overlayAt_15 (Nat.le_of_ble_eq_true rfl) rfl rfl ?_
      refine pg_aload_n h d_Screen_overlayAt_16 rfl ?_
      refine pg_ifnull h d_Screen_overlayAt_17 ?_
      refine pg_iload_n h d_Screen_overlayAt_20 rfl ?_
      refine pg_if_eq (tgt := 28) h d_Screen_overlayAt_21 rfl (fun e21 => ?_) (fun e21 => ?_)
      · skip
        refine pg_aload_n h d_Screen_overlayAt_28 rfl ?_
        refine pg_iload_n h d_Screen_overlayAt_29 rfl ?_
        refine pg_iload_n h d_Screen_overlayAt_30 rfl ?_
        refine pf_cV h ok d_Screen_overlayAt_31 m_Page_overlayAt l_Screen_73 (c_Page_overlayAt w ok _ k hk r c hr hc) cn_Page (by first | rfl | exact hk | exact hk2 | exact dm12 _ | assumption) rfl rfl rfl (Nat.le_of_ble_eq_true rfl) ⟨(Nat.le_of_ble_eq_true rfl), (Nat.le_of_ble_eq_true rfl)⟩ ⟨Nat.le_refl _, Nat.le_refl _⟩ ?_
        try simp only [SC13, SC12, SC_12, SC_13, SC_6, SC_10, SC_14, SC_15, SC_16, SC_17]
        exact pf_iret h d_Screen_overlayAt_34 rfl (by first | exact absurd rfl e21 | exact absurd e21 (by decide) | (have q1 := q_r0 hr; have q2 := q_c8 hc; simp only [q1, q2] at *; simp [ovV, *])) rfl
      refine pg_iconst (v := 0) h d_Screen_overlayAt_24 (by decide) ?_
      refine pg_goto (tgt := 34) h d_Screen_overlayAt_25 rfl ?_
      exact pf_iret h d_Screen_overlayAt_34 rfl (by first | exact absurd rfl e21 | exact absurd e21 (by decide) | (have q1 := q_r0 hr; have q2 := q_c8 hc; simp only [q1, q2] at *; simp [ovV, *])) rfl
    refine pg_iload_n h d_Screen_overlayAt_4 rfl ?_
    refine pg_bipush (v := 8) h d_Screen_overlayAt_5 (by decide) ?_
    refine pg_icmp_ge (tgt := 14) h d_Screen_overlayAt_7 rfl (fun e7 => ?_) (fun e7 => ?_)
    · skip
      refine pg_iconst (v := 0) h d_Screen_overlayAt_14 (by decide) ?_
      refine pg_istore_n h d_Screen_overlayAt_15 (Nat.le_of_ble_eq_true rfl) rfl rfl ?_
      refine pg_aload_n h d_Screen_overlayAt_16 rfl ?_
      refine pg_ifnull h d_Screen_overlayAt_17 ?_
      refine pg_iload_n h d_Screen_overlayAt_20 rfl ?_
      refine pg_if_eq (tgt := 28) h d_Screen_overlayAt_21 rfl (fun e21 => ?_) (fun e21 => ?_)
      · skip
        refine pg_aload_n h d_Screen_overlayAt_28 rfl ?_
        refine pg_iload_n h d_Screen_overlayAt_29 rfl ?_
        refine pg_iload_n h d_Screen_overlayAt_30 rfl ?_
        refine pf_cV h ok d_Screen_overlayAt_31 m_Page_overlayAt l_Screen_73 (c_Page_overlayAt w ok _ k hk r c hr hc) cn_Page (by first | rfl | exact hk | exact hk2 | exact dm12 _ | assumption) rfl rfl rfl (Nat.le_of_ble_eq_true rfl) ⟨(Nat.le_of_ble_eq_true rfl), (Nat.le_of_ble_eq_true rfl)⟩ ⟨Nat.le_refl _, Nat.le_refl _⟩ ?_
        try simp only [SC13, SC12, SC_12, SC_13, SC_6, SC_10, SC_14, SC_15, SC_16, SC_17]
        exact pf_iret h d_Screen_overlayAt_34 rfl (by first | exact absurd rfl e21 | exact absurd e21 (by decide) | (have q1 := q_r0 hr; have q2 := q_c8 hc; simp only [q1, q2] at *; simp [ovV, *])) rfl
      refine pg_iconst (v := 0) h d_Screen_overlayAt_24 (by decide) ?_
      refine pg_goto (tgt := 34) h d_Screen_overlayAt_25 rfl ?_
      exact pf_iret h d_Screen_overlayAt_34 rfl (by first | exact absurd rfl e21 | exact absurd e21 (by decide) | (have q1 := q_r0 hr; have q2 := q_c8 hc; simp only [q1, q2] at *; simp [ovV, *])) rfl
    refine pg_iconst (v := 1) h d_Screen_overlayAt_10 (by decide) ?_
    refine pg_goto (tgt := 15) h d_Screen_overlayAt_11 rfl ?_
    refine pg_istore_n h d_Screen_overlayAt_15 (Nat.le_of_ble_eq_true rfl) rfl rfl ?_
    refine pg_aload_n h d_Screen_overlayAt_16 rfl ?_
    refine pg_ifnull h d_Screen_overlayAt_17 ?_
    refine pg_iload_n h d_Screen_overlayAt_20 rfl ?_
    refine pg_if_eq (tgt := 28) h d_Screen_overlayAt_21 rfl (fun e21 => ?_) (fun e21 => ?_)
    · skip
      refine pg_aload_n h d_Screen_overlayAt_28 rfl ?_
      refine pg_iload_n h d_Screen_overlayAt_29 rfl ?_
      refine pg_iload_n h d_Screen_overlayAt_30 rfl ?_
      refine pf_cV h ok d_Screen_overlayAt_31 m_Page_overlayAt l_Screen_73 (c_Page_overlayAt w ok _ k hk r c hr hc) cn_Page (by first | rfl | exact hk | exact hk2 | exact dm12 _ | assumption) rfl rfl rfl (Nat.le_of_ble_eq_true rfl) ⟨(Nat.le_of_ble_eq_true rfl), (Nat.le_of_ble_eq_true rfl)⟩ ⟨Nat.le_refl _, Nat.le_refl _⟩ ?_
      try simp only [SC13, SC12, SC_12, SC_13, SC_6, SC_10, SC_14, SC_15, SC_16, SC_17]
      exact pf_iret h d_Screen_overlayAt_34 rfl (by first | exact absurd rfl e21 | exact absurd e21 (by decide) | (have q1 := q_r0 hr; have q2 := q_c8 hc; simp only [q1, q2] at *; simp [ovV, *])) rfl
    refine pg_iconst (v := 0) h d_Screen_overlayAt_24 (by decide) ?_
    refine pg_goto (tgt := 34) h d_Screen_overlayAt_25 rfl ?_
    exact pf_iret h d_Screen_overlayAt_34 rfl (by first | exact absurd rfl e21 | exact absurd e21 (by decide) | (have q1 := q_r0 hr; have q2 := q_c8 hc; simp only [q1, q2] at *; simp [ovV, *])) rfl

def hdbFrom (L : Nat → Int32) : Nat → Nat → Int32 → Int32
  | 0, _, _ => 0
  | n + 1, c, on => if on = 0 ∨ L c = 12 then hdbFrom L n (c + 1) (if L c = 13 then 1 else 0) else 1
/-- Screen.hasDouble -/
def hdb (S : pf_S) (o : Option Nat) (r : Nat) : Int32 := hdbFrom (fun c => ltV S o r c) 20 0 0
theorem hdbFrom_01 {L : Nat → Int32} : ∀ {n c : Nat} {on : Int32}, hdbFrom L n c on = 0 ∨ hdbFrom L n c on = 1 := by
  intro n
  induction n with
  | zero => intro c on; exact Or.inl rfl
  | succ n ih =>
    intro c on
    rw [hdbFrom]
    split
    · exact ih
    · exact Or.inr rfl

set_option maxRecDepth 100000 in
set_option maxHeartbeats 4000000 in
theorem c_Screen_hasDouble (w : pf_W) (ok : pf_ok w) (S : pf_S) (g u : Nat → Int32) (o : Option Nat) (ho : ∀ k, o = some k → pf_dm w.2.2.1 14 k = true) (r : Nat) (hr : r < 8) : pf_C w y_Screen_hasDouble b_Screen_hasDouble 6 (some .boolean) 3 66 [.ref (w.2.1 12 0), pgV w o, .int (nI r)] (SC S g u) (some (.int (hdb S o r))) (SC S g u) := by
  refine pf_enter (by decide) (by cases o <;> exact Nat.le_of_ble_eq_true rfl) (lv0 := [some (.ref (w.2.1 12 0)), some (pgV w o), some (.int (nI r)), none, none, none]) (by cases o <;> rfl) (fun κ h => ?_)
  have loop : ∀ (n c : Nat) (on : Int32) (X : Option Value), c + n = 20 → hdbFrom (fun c => ltV S o r c) n c on = hdb S o r → pg_G κ w.1 6 0 0 (pg_Q κ w.1 (fun r' H => r' = (some (.int (hdb S o r))) ∧ pf_P w (SC S g u) H) 0 0) (pf_P w (SC S g u)) 5 [some (.ref (w.2.1 12 0)), some (pgV w o), some (.int (nI r)), some (.int on), some (.int (nI c)), X] [] := by
    intro n
    induction n with
    | zero =>
      intro c on X hc hI
      have hc : c = 20 := by omega
      subst hc
      refine pg_iload h d_Screen_hasDouble_5 rfl ?_
      refine pg_bipush (v := 20) h d_Screen_hasDouble_7 (by decide) ?_
      refine pg_icmp_ge (tgt := 64) h d_Screen_hasDouble_9 rfl (fun e9 => ?_) (fun e9 => absurd e9 (fun e => e (by decide)))
      refine pg_iconst (v := 0) h d_Screen_hasDouble_64 (by decide) ?_
      exact pf_iret h d_Screen_hasDouble_65 rfl (by rw [← hI]; rfl) rfl
    | succ n ih =>
      intro c on X hc hI
      have hc2 : c < 20 := by omega
      refine pg_iload h d_Screen_hasDouble_5 rfl ?_
      refine pg_bipush (v := 20) h d_Screen_hasDouble_7 (by decide) ?_
      refine pg_icmp_ge (tgt := 64) h d_Screen_hasDouble_9 rfl (fun e9 => absurd e9 (nI_ge hc2 (by decide))) (fun e9 => ?_)
      refine pg_aload_n h d_Screen_hasDouble_12 rfl ?_
      refine pg_aloadP h d_Screen_hasDouble_13 rfl ?_
      refine pg_iload_n h d_Screen_hasDouble_14 rfl ?_
      refine pg_iload h d_Screen_hasDouble_15 rfl ?_
      refine pf_cV h ok d_Screen_hasDouble_17 m_Screen_letterAt l_Screen_53 (c_Screen_letterAt w ok S g u o ho r c hr hc2) cn_Screen (by first | rfl | exact hk | exact hk2 | exact dm12 _ | assumption) rfl rfl rfl (Nat.le_of_ble_eq_true rfl) ⟨(Nat.le_of_ble_eq_true rfl), (Nat.le_of_ble_eq_true rfl)⟩ ⟨Nat.le_refl _, Nat.le_refl _⟩ ?_
      refine pg_istore h d_Screen_hasDouble_20 (Nat.le_of_ble_eq_true rfl) rfl rfl ?_
      refine pg_iload_n h d_Screen_hasDouble_22 rfl ?_
      refine pg_if_eq (tgt := 37) h d_Screen_hasDouble_23 rfl (fun e23 => ?_) (fun e23 => ?_)
      · skip
        refine pg_iconst (v := 0) h d_Screen_hasDouble_37 (by decide) ?_
        refine pg_istore_n h d_Screen_hasDouble_38 (Nat.le_of_ble_eq_true rfl) rfl rfl ?_
        refine pg_iload_n h d_Screen_hasDouble_39 rfl ?_
        refine pg_if_eq (tgt := 45) h d_Screen_hasDouble_40 rfl (fun e40 => ?_) (fun e40 => ?_)
        · skip
          refine pg_iload h d_Screen_hasDouble_45 rfl ?_
          refine pg_bipush (v := 13) h d_Screen_hasDouble_47 (by decide) ?_
          refine pg_icmp_ne (tgt := 56) h d_Screen_hasDouble_49 rfl (fun e49 => ?_) (fun e49 => ?_)
          · skip
            refine pg_iconst (v := 0) h d_Screen_hasDouble_56 (by decide) ?_
            refine pg_istore_n h d_Screen_hasDouble_57 (Nat.le_of_ble_eq_true rfl) rfl rfl ?_
            refine pg_iinc (w := 1) h d_Screen_hasDouble_58 rfl (by decide) (Nat.le_of_ble_eq_true rfl) rfl rfl ?_
            refine pg_goto (tgt := 5) h d_Screen_hasDouble_61 rfl ?_
            first
              | exact absurd rfl e40
              | exact absurd e40 (by decide)
              | exact absurd (e30.symm.trans e49) (by decide)
              | (rw [← nI_succ c]; exact ih (c + 1) _ _ (by omega) (by rw [hdbFrom] at hI; simp only [*] at hI; simpa using hI))
          refine pg_iconst (v := 1) h d_Screen_hasDouble_52 (by decide) ?_
          refine pg_goto (tgt := 57) h d_Screen_hasDouble_53 rfl ?_
          refine pg_istore_n h d_Screen_hasDouble_57 (Nat.le_of_ble_eq_true rfl) rfl rfl ?_
          refine pg_iinc (w := 1) h d_Screen_hasDouble_58 rfl (by decide) (Nat.le_of_ble_eq_true rfl) rfl rfl ?_
          refine pg_goto (tgt := 5) h d_Screen_hasDouble_61 rfl ?_
          first
            | exact absurd rfl e40
            | exact absurd e40 (by decide)
            | exact absurd (e30.symm.trans e49) (by decide)
            | (rw [← nI_succ c]; exact ih (c + 1) _ _ (by omega) (by rw [hdbFrom] at hI; simp only [*] at hI; simpa using hI))
        refine pg_iconst (v := 1) h d_Screen_hasDouble_43 (by decide) ?_
        exact pf_iret h d_Screen_hasDouble_44 rfl (by first | exact absurd rfl e40 | exact absurd e40 (by decide) | (rw [hdbFrom] at hI; rw [← hI]; simp [*])) rfl
      refine pg_iload h d_Screen_hasDouble_26 rfl ?_
      refine pg_bipush (v := 12) h d_Screen_hasDouble_28 (by decide) ?_
      refine pg_icmp_eq (tgt := 37) h d_Screen_hasDouble_30 rfl (fun e30 => ?_) (fun e30 => ?_)
      · skip
        refine pg_iconst (v := 0) h d_Screen_hasDouble_37 (by decide) ?_
        refine pg_istore_n h d_Screen_hasDouble_38 (Nat.le_of_ble_eq_true rfl) rfl rfl ?_
        refine pg_iload_n h d_Screen_hasDouble_39 rfl ?_
        refine pg_if_eq (tgt := 45) h d_Screen_hasDouble_40 rfl (fun e40 => ?_) (fun e40 => ?_)
        · skip
          refine pg_iload h d_Screen_hasDouble_45 rfl ?_
          refine pg_bipush (v := 13) h d_Screen_hasDouble_47 (by decide) ?_
          refine pg_icmp_ne (tgt := 56) h d_Screen_hasDouble_49 rfl (fun e49 => ?_) (fun e49 => ?_)
          · skip
            refine pg_iconst (v := 0) h d_Screen_hasDouble_56 (by decide) ?_
            refine pg_istore_n h d_Screen_hasDouble_57 (Nat.le_of_ble_eq_true rfl) rfl rfl ?_
            refine pg_iinc (w := 1) h d_Screen_hasDouble_58 rfl (by decide) (Nat.le_of_ble_eq_true rfl) rfl rfl ?_
            refine pg_goto (tgt := 5) h d_Screen_hasDouble_61 rfl ?_
            first
              | exact absurd rfl e40
              | exact absurd e40 (by decide)
              | exact absurd (e30.symm.trans e49) (by decide)
              | (rw [← nI_succ c]; exact ih (c + 1) _ _ (by omega) (by rw [hdbFrom] at hI; simp only [*] at hI; simpa using hI))
          refine pg_iconst (v := 1) h d_Screen_hasDouble_52 (by decide) ?_
          refine pg_goto (tgt := 57) h d_Screen_hasDouble_53 rfl ?_
          refine pg_istore_n h d_Screen_hasDouble_57 (Nat.le_of_ble_eq_true rfl) rfl rfl ?_
          refine pg_iinc (w := 1) h d_Screen_hasDouble_58 rfl (by decide) (Nat.le_of_ble_eq_true rfl) rfl rfl ?_
          refine pg_goto (tgt := 5) h d_Screen_hasDouble_61 rfl ?_
          first
            | exact absurd rfl e40
            | exact absurd e40 (by decide)
            | exact absurd (e30.symm.trans e49) (by decide)
            | (rw [← nI_succ c]; exact ih (c + 1) _ _ (by omega) (by rw [hdbFrom] at hI; simp only [*] at hI; simpa using hI))
        refine pg_iconst (v := 1) h d_Screen_hasDouble_43 (by decide) ?_
        exact pf_iret h d_Screen_hasDouble_44 rfl (by first | exact absurd rfl e40 | exact absurd e40 (by decide) | (rw [hdbFrom] at hI; rw [← hI]; simp [*])) rfl
      refine pg_iconst (v := 1) h d_Screen_hasDouble_33 (by decide) ?_
      refine pg_goto (tgt := 38) h d_Screen_hasDouble_34 rfl ?_
      refine pg_istore_n h d_Screen_hasDouble_38 (Nat.le_of_ble_eq_true rfl) rfl rfl ?_
      refine pg_iload_n h d_Screen_hasDouble_39 rfl ?_
      refine pg_if_eq (tgt := 45) h d_Screen_hasDouble_40 rfl (fun e40 => ?_) (fun e40 => ?_)
      · skip
        refine pg_iload h d_Screen_hasDouble_45 rfl ?_
        refine pg_bipush (v := 13) h d_Screen_hasDouble_47 (by decide) ?_
        refine pg_icmp_ne (tgt := 56) h d_Screen_hasDouble_49 rfl (fun e49 => ?_) (fun e49 => ?_)
        · skip
          refine pg_iconst (v := 0) h d_Screen_hasDouble_56 (by decide) ?_
          refine pg_istore_n h d_Screen_hasDouble_57 (Nat.le_of_ble_eq_true rfl) rfl rfl ?_
          refine pg_iinc (w := 1) h d_Screen_hasDouble_58 rfl (by decide) (Nat.le_of_ble_eq_true rfl) rfl rfl ?_
          refine pg_goto (tgt := 5) h d_Screen_hasDouble_61 rfl ?_
          first
            | exact absurd rfl e40
            | exact absurd e40 (by decide)
            | exact absurd (e30.symm.trans e49) (by decide)
            | (rw [← nI_succ c]; exact ih (c + 1) _ _ (by omega) (by rw [hdbFrom] at hI; simp only [*] at hI; simpa using hI))
        refine pg_iconst (v := 1) h d_Screen_hasDouble_52 (by decide) ?_
        refine pg_goto (tgt := 57) h d_Screen_hasDouble_53 rfl ?_
        refine pg_istore_n h d_Screen_hasDouble_57 (Nat.le_of_ble_eq_true rfl) rfl rfl ?_
        refine pg_iinc (w := 1) h d_Screen_hasDouble_58 rfl (by decide) (Nat.le_of_ble_eq_true rfl) rfl rfl ?_
        refine pg_goto (tgt := 5) h d_Screen_hasDouble_61 rfl ?_
        first
          | exact absurd rfl e40
          | exact absurd e40 (by decide)
          | exact absurd (e30.symm.trans e49) (by decide)
          | (rw [← nI_succ c]; exact ih (c + 1) _ _ (by omega) (by rw [hdbFrom] at hI; simp only [*] at hI; simpa using hI))
      refine pg_iconst (v := 1) h d_Screen_hasDouble_43 (by decide) ?_
      exact pf_iret h d_Screen_hasDouble_44 rfl (by first | exact absurd rfl e40 | exact absurd e40 (by decide) | (rw [hdbFrom] at hI; rw [← hI]; simp [*])) rfl
  refine pg_iconst (v := 0) h d_Screen_hasDouble_0 (by decide) ?_
  refine pg_istore_n h d_Screen_hasDouble_1 (Nat.le_of_ble_eq_true rfl) rfl rfl ?_
  refine pg_iconst (v := 0) h d_Screen_hasDouble_2 (by decide) ?_
  refine pg_istore h d_Screen_hasDouble_3 (Nat.le_of_ble_eq_true rfl) rfl rfl ?_
  exact loop 20 0 0 none rfl rfl
end
