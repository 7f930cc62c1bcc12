section
-- ===== PART A: goes FIRST, ahead of the names: the tables' words, and 'selects' of the private methods out of them =====
/-- a private method of a class that the tables say can be made, by its rows of tables_1 -/
def lw_okq (q : MethodName × Nat) : Prop := (q.1.cls ≠ "java/lang/invoke/MethodHandle" ∧ q.1.cls ≠ "java/lang/invoke/VarHandle") ∧ Cond.instantiable q.1.cls q.2 ∈ tables_1 ∧ Cond.privateMethod q.1 ∈ tables_1 ∧ Cond.instanceMethod q.1 ∈ tables_1
theorem lw_p0 : lw_okq (⟨"ClosExchange$History", "latestState", "()LClosExchange$Network;"⟩, 3) := ⟨⟨by decide +kernel, by decide +kernel⟩, List.mem_of_getElem? (i := 146) (by decide +kernel), List.mem_of_getElem? (i := 233) (by decide +kernel), List.mem_of_getElem? (i := 234) (by decide +kernel)⟩
theorem lw_p1 : lw_okq (⟨"ClosExchange$Router", "findWay", "(LClosExchange$Network;II)I"⟩, 5) := ⟨⟨by decide +kernel, by decide +kernel⟩, List.mem_of_getElem? (i := 120) (by decide +kernel), List.mem_of_getElem? (i := 301) (by decide +kernel), List.mem_of_getElem? (i := 302) (by decide +kernel)⟩
theorem lw_p2 : lw_okq (⟨"ClosExchange$Router", "choose", "(LClosExchange$Network;I)I"⟩, 5) := ⟨⟨by decide +kernel, by decide +kernel⟩, List.mem_of_getElem? (i := 120) (by decide +kernel), List.mem_of_getElem? (i := 316) (by decide +kernel), List.mem_of_getElem? (i := 317) (by decide +kernel)⟩
theorem lw_p3 : lw_okq (⟨"ClosExchange$Router", "findPair", "(LClosExchange$Network;III)V"⟩, 5) := ⟨⟨by decide +kernel, by decide +kernel⟩, List.mem_of_getElem? (i := 120) (by decide +kernel), List.mem_of_getElem? (i := 327) (by decide +kernel), List.mem_of_getElem? (i := 328) (by decide +kernel)⟩
theorem lw_p4 : lw_okq (⟨"ClosExchange$Router", "follow", "(LClosExchange$Network;III)V"⟩, 5) := ⟨⟨by decide +kernel, by decide +kernel⟩, List.mem_of_getElem? (i := 120) (by decide +kernel), List.mem_of_getElem? (i := 331) (by decide +kernel), List.mem_of_getElem? (i := 332) (by decide +kernel)⟩
theorem lw_p5 : lw_okq (⟨"ClosExchange$Router", "settle", "(LClosExchange$Network;II)V"⟩, 5) := ⟨⟨by decide +kernel, by decide +kernel⟩, List.mem_of_getElem? (i := 120) (by decide +kernel), List.mem_of_getElem? (i := 346) (by decide +kernel), List.mem_of_getElem? (i := 347) (by decide +kernel)⟩
theorem lw_p6 : lw_okq (⟨"ClosExchange", "recorded", "(I)I"⟩, 8) := ⟨⟨by decide +kernel, by decide +kernel⟩, List.mem_of_getElem? (i := 13) (by decide +kernel), List.mem_of_getElem? (i := 359) (by decide +kernel), List.mem_of_getElem? (i := 360) (by decide +kernel)⟩
theorem lw_p7 : lw_okq (⟨"ClosExchange$Router", "reroute", "(LClosExchange$Network;)I"⟩, 5) := ⟨⟨by decide +kernel, by decide +kernel⟩, List.mem_of_getElem? (i := 120) (by decide +kernel), List.mem_of_getElem? (i := 388) (by decide +kernel), List.mem_of_getElem? (i := 389) (by decide +kernel)⟩
theorem lw_p8 : lw_okq (⟨"ClosExchange$Router", "countChanged", "(LClosExchange$Network;)I"⟩, 5) := ⟨⟨by decide +kernel, by decide +kernel⟩, List.mem_of_getElem? (i := 120) (by decide +kernel), List.mem_of_getElem? (i := 430) (by decide +kernel), List.mem_of_getElem? (i := 431) (by decide +kernel)⟩
theorem lw_p9 : lw_okq (⟨"ClosExchange$OrderText", "sign", "()I"⟩, 6) := ⟨⟨by decide +kernel, by decide +kernel⟩, List.mem_of_getElem? (i := 166) (by decide +kernel), List.mem_of_getElem? (i := 463) (by decide +kernel), List.mem_of_getElem? (i := 464) (by decide +kernel)⟩
theorem lw_p10 : lw_okq (⟨"ClosExchange$OrderText", "readNumber", "(I)I"⟩, 6) := ⟨⟨by decide +kernel, by decide +kernel⟩, List.mem_of_getElem? (i := 166) (by decide +kernel), List.mem_of_getElem? (i := 468) (by decide +kernel), List.mem_of_getElem? (i := 469) (by decide +kernel)⟩
theorem lw_p11 : lw_okq (⟨"ClosExchange", "obey", "()I"⟩, 8) := ⟨⟨by decide +kernel, by decide +kernel⟩, List.mem_of_getElem? (i := 13) (by decide +kernel), List.mem_of_getElem? (i := 479) (by decide +kernel), List.mem_of_getElem? (i := 480) (by decide +kernel)⟩
theorem lw_p12 : lw_okq (⟨"ClosExchangeModel", "builds", "(IIII)V"⟩, 12) := ⟨⟨by decide +kernel, by decide +kernel⟩, List.mem_of_getElem? (i := 592) (by decide +kernel), List.mem_of_getElem? (i := 598) (by decide +kernel), List.mem_of_getElem? (i := 599) (by decide +kernel)⟩
theorem lw_p13 : lw_okq (⟨"ClosExchangeModel", "lay", "(IIII)V"⟩, 12) := ⟨⟨by decide +kernel, by decide +kernel⟩, List.mem_of_getElem? (i := 592) (by decide +kernel), List.mem_of_getElem? (i := 602) (by decide +kernel), List.mem_of_getElem? (i := 603) (by decide +kernel)⟩
theorem lw_p14 : lw_okq (⟨"ClosExchangeModel", "copies", "(II)V"⟩, 12) := ⟨⟨by decide +kernel, by decide +kernel⟩, List.mem_of_getElem? (i := 592) (by decide +kernel), List.mem_of_getElem? (i := 650) (by decide +kernel), List.mem_of_getElem? (i := 651) (by decide +kernel)⟩
theorem lw_p15 : lw_okq (⟨"ClosExchangeModel", "calls", "(I)I"⟩, 12) := ⟨⟨by decide +kernel, by decide +kernel⟩, List.mem_of_getElem? (i := 592) (by decide +kernel), List.mem_of_getElem? (i := 654) (by decide +kernel), List.mem_of_getElem? (i := 655) (by decide +kernel)⟩
def lw_privs_1 : List (MethodName × Nat) := [(⟨"ClosExchange$History", "latestState", "()LClosExchange$Network;"⟩, 3), (⟨"ClosExchange$Router", "findWay", "(LClosExchange$Network;II)I"⟩, 5), (⟨"ClosExchange$Router", "choose", "(LClosExchange$Network;I)I"⟩, 5), (⟨"ClosExchange$Router", "findPair", "(LClosExchange$Network;III)V"⟩, 5), (⟨"ClosExchange$Router", "follow", "(LClosExchange$Network;III)V"⟩, 5), (⟨"ClosExchange$Router", "settle", "(LClosExchange$Network;II)V"⟩, 5), (⟨"ClosExchange", "recorded", "(I)I"⟩, 8), (⟨"ClosExchange$Router", "reroute", "(LClosExchange$Network;)I"⟩, 5), (⟨"ClosExchange$Router", "countChanged", "(LClosExchange$Network;)I"⟩, 5), (⟨"ClosExchange$OrderText", "sign", "()I"⟩, 6), (⟨"ClosExchange$OrderText", "readNumber", "(I)I"⟩, 6), (⟨"ClosExchange", "obey", "()I"⟩, 8), (⟨"ClosExchangeModel", "builds", "(IIII)V"⟩, 12), (⟨"ClosExchangeModel", "lay", "(IIII)V"⟩, 12), (⟨"ClosExchangeModel", "copies", "(II)V"⟩, 12), (⟨"ClosExchangeModel", "calls", "(I)I"⟩, 12)]
theorem lw_r1 : ∀ q ∈ lw_privs_1, lw_okq q := List.forall_mem_cons.mpr ⟨lw_p0, List.forall_mem_cons.mpr ⟨lw_p1, List.forall_mem_cons.mpr ⟨lw_p2, List.forall_mem_cons.mpr ⟨lw_p3, List.forall_mem_cons.mpr ⟨lw_p4, List.forall_mem_cons.mpr ⟨lw_p5, List.forall_mem_cons.mpr ⟨lw_p6, List.forall_mem_cons.mpr ⟨lw_p7, List.forall_mem_cons.mpr ⟨lw_p8, List.forall_mem_cons.mpr ⟨lw_p9, List.forall_mem_cons.mpr ⟨lw_p10, List.forall_mem_cons.mpr ⟨lw_p11, List.forall_mem_cons.mpr ⟨lw_p12, List.forall_mem_cons.mpr ⟨lw_p13, List.forall_mem_cons.mpr ⟨lw_p14, List.forall_mem_cons.mpr ⟨lw_p15, fun _ h => absurd h List.not_mem_nil⟩⟩⟩⟩⟩⟩⟩⟩⟩⟩⟩⟩⟩⟩⟩⟩
theorem lw_p16 : lw_okq (⟨"ClosExchangeModel", "lines", "(I)I"⟩, 12) := ⟨⟨by decide +kernel, by decide +kernel⟩, List.mem_of_getElem? (i := 592) (by decide +kernel), List.mem_of_getElem? (i := 658) (by decide +kernel), List.mem_of_getElem? (i := 659) (by decide +kernel)⟩
theorem lw_p17 : lw_okq (⟨"ClosExchangeModel", "of", "(III)I"⟩, 12) := ⟨⟨by decide +kernel, by decide +kernel⟩, List.mem_of_getElem? (i := 592) (by decide +kernel), List.mem_of_getElem? (i := 662) (by decide +kernel), List.mem_of_getElem? (i := 663) (by decide +kernel)⟩
theorem lw_p18 : lw_okq (⟨"ClosExchangeModel", "accepts", "(I)I"⟩, 12) := ⟨⟨by decide +kernel, by decide +kernel⟩, List.mem_of_getElem? (i := 592) (by decide +kernel), List.mem_of_getElem? (i := 666) (by decide +kernel), List.mem_of_getElem? (i := 667) (by decide +kernel)⟩
theorem lw_p19 : lw_okq (⟨"ClosExchangeModel", "rules", "(III)I"⟩, 12) := ⟨⟨by decide +kernel, by decide +kernel⟩, List.mem_of_getElem? (i := 592) (by decide +kernel), List.mem_of_getElem? (i := 674) (by decide +kernel), List.mem_of_getElem? (i := 675) (by decide +kernel)⟩
theorem lw_p20 : lw_okq (⟨"ClosExchangeModel", "connects", "(III)I"⟩, 12) := ⟨⟨by decide +kernel, by decide +kernel⟩, List.mem_of_getElem? (i := 592) (by decide +kernel), List.mem_of_getElem? (i := 686) (by decide +kernel), List.mem_of_getElem? (i := 687) (by decide +kernel)⟩
theorem lw_p21 : lw_okq (⟨"ClosExchangeModel", "isLine", "(II)Z"⟩, 12) := ⟨⟨by decide +kernel, by decide +kernel⟩, List.mem_of_getElem? (i := 592) (by decide +kernel), List.mem_of_getElem? (i := 690) (by decide +kernel), List.mem_of_getElem? (i := 691) (by decide +kernel)⟩
theorem lw_p22 : lw_okq (⟨"ClosExchangeModel", "inletTo", "(II)I"⟩, 12) := ⟨⟨by decide +kernel, by decide +kernel⟩, List.mem_of_getElem? (i := 592) (by decide +kernel), List.mem_of_getElem? (i := 694) (by decide +kernel), List.mem_of_getElem? (i := 695) (by decide +kernel)⟩
theorem lw_p23 : lw_okq (⟨"ClosExchangeModel", "routes", "(II)I"⟩, 12) := ⟨⟨by decide +kernel, by decide +kernel⟩, List.mem_of_getElem? (i := 592) (by decide +kernel), List.mem_of_getElem? (i := 698) (by decide +kernel), List.mem_of_getElem? (i := 699) (by decide +kernel)⟩
theorem lw_p24 : lw_okq (⟨"ClosExchangeModel", "freeAhead", "(II)I"⟩, 12) := ⟨⟨by decide +kernel, by decide +kernel⟩, List.mem_of_getElem? (i := 592) (by decide +kernel), List.mem_of_getElem? (i := 702) (by decide +kernel), List.mem_of_getElem? (i := 703) (by decide +kernel)⟩
theorem lw_p25 : lw_okq (⟨"ClosExchangeModel", "onFirst", "(III)I"⟩, 12) := ⟨⟨by decide +kernel, by decide +kernel⟩, List.mem_of_getElem? (i := 592) (by decide +kernel), List.mem_of_getElem? (i := 709) (by decide +kernel), List.mem_of_getElem? (i := 710) (by decide +kernel)⟩
theorem lw_p26 : lw_okq (⟨"ClosExchangeModel", "freeBehind", "(II)I"⟩, 12) := ⟨⟨by decide +kernel, by decide +kernel⟩, List.mem_of_getElem? (i := 592) (by decide +kernel), List.mem_of_getElem? (i := 713) (by decide +kernel), List.mem_of_getElem? (i := 714) (by decide +kernel)⟩
theorem lw_p27 : lw_okq (⟨"ClosExchangeModel", "onLast", "(III)I"⟩, 12) := ⟨⟨by decide +kernel, by decide +kernel⟩, List.mem_of_getElem? (i := 592) (by decide +kernel), List.mem_of_getElem? (i := 717) (by decide +kernel), List.mem_of_getElem? (i := 718) (by decide +kernel)⟩
theorem lw_p28 : lw_okq (⟨"ClosExchangeModel", "chosen", "(II)I"⟩, 12) := ⟨⟨by decide +kernel, by decide +kernel⟩, List.mem_of_getElem? (i := 592) (by decide +kernel), List.mem_of_getElem? (i := 721) (by decide +kernel), List.mem_of_getElem? (i := 722) (by decide +kernel)⟩
theorem lw_p29 : lw_okq (⟨"ClosExchangeModel", "loadOf", "(II)I"⟩, 12) := ⟨⟨by decide +kernel, by decide +kernel⟩, List.mem_of_getElem? (i := 592) (by decide +kernel), List.mem_of_getElem? (i := 728) (by decide +kernel), List.mem_of_getElem? (i := 729) (by decide +kernel)⟩
theorem lw_p30 : lw_okq (⟨"ClosExchangeModel", "pairOf", "(IIII)I"⟩, 12) := ⟨⟨by decide +kernel, by decide +kernel⟩, List.mem_of_getElem? (i := 592) (by decide +kernel), List.mem_of_getElem? (i := 732) (by decide +kernel), List.mem_of_getElem? (i := 733) (by decide +kernel)⟩
theorem lw_p31 : lw_okq (⟨"ClosExchangeModel", "lays", "(IIII)I"⟩, 12) := ⟨⟨by decide +kernel, by decide +kernel⟩, List.mem_of_getElem? (i := 592) (by decide +kernel), List.mem_of_getElem? (i := 736) (by decide +kernel), List.mem_of_getElem? (i := 737) (by decide +kernel)⟩
def lw_privs_2 : List (MethodName × Nat) := [(⟨"ClosExchangeModel", "lines", "(I)I"⟩, 12), (⟨"ClosExchangeModel", "of", "(III)I"⟩, 12), (⟨"ClosExchangeModel", "accepts", "(I)I"⟩, 12), (⟨"ClosExchangeModel", "rules", "(III)I"⟩, 12), (⟨"ClosExchangeModel", "connects", "(III)I"⟩, 12), (⟨"ClosExchangeModel", "isLine", "(II)Z"⟩, 12), (⟨"ClosExchangeModel", "inletTo", "(II)I"⟩, 12), (⟨"ClosExchangeModel", "routes", "(II)I"⟩, 12), (⟨"ClosExchangeModel", "freeAhead", "(II)I"⟩, 12), (⟨"ClosExchangeModel", "onFirst", "(III)I"⟩, 12), (⟨"ClosExchangeModel", "freeBehind", "(II)I"⟩, 12), (⟨"ClosExchangeModel", "onLast", "(III)I"⟩, 12), (⟨"ClosExchangeModel", "chosen", "(II)I"⟩, 12), (⟨"ClosExchangeModel", "loadOf", "(II)I"⟩, 12), (⟨"ClosExchangeModel", "pairOf", "(IIII)I"⟩, 12), (⟨"ClosExchangeModel", "lays", "(IIII)I"⟩, 12)]
theorem lw_r2 : ∀ q ∈ lw_privs_2, lw_okq q := List.forall_mem_cons.mpr ⟨lw_p16, List.forall_mem_cons.mpr ⟨lw_p17, List.forall_mem_cons.mpr ⟨lw_p18, List.forall_mem_cons.mpr ⟨lw_p19, List.forall_mem_cons.mpr ⟨lw_p20, List.forall_mem_cons.mpr ⟨lw_p21, List.forall_mem_cons.mpr ⟨lw_p22, List.forall_mem_cons.mpr ⟨lw_p23, List.forall_mem_cons.mpr ⟨lw_p24, List.forall_mem_cons.mpr ⟨lw_p25, List.forall_mem_cons.mpr ⟨lw_p26, List.forall_mem_cons.mpr ⟨lw_p27, List.forall_mem_cons.mpr ⟨lw_p28, List.forall_mem_cons.mpr ⟨lw_p29, List.forall_mem_cons.mpr ⟨lw_p30, List.forall_mem_cons.mpr ⟨lw_p31, fun _ h => absurd h List.not_mem_nil⟩⟩⟩⟩⟩⟩⟩⟩⟩⟩⟩⟩⟩⟩⟩⟩
theorem lw_p32 : lw_okq (⟨"ClosExchangeModel", "disconnects", "(II)I"⟩, 12) := ⟨⟨by decide +kernel, by decide +kernel⟩, List.mem_of_getElem? (i := 592) (by decide +kernel), List.mem_of_getElem? (i := 744) (by decide +kernel), List.mem_of_getElem? (i := 745) (by decide +kernel)⟩
theorem lw_p33 : lw_okq (⟨"ClosExchangeModel", "takesOut", "(II)I"⟩, 12) := ⟨⟨by decide +kernel, by decide +kernel⟩, List.mem_of_getElem? (i := 592) (by decide +kernel), List.mem_of_getElem? (i := 752) (by decide +kernel), List.mem_of_getElem? (i := 753) (by decide +kernel)⟩
theorem lw_p34 : lw_okq (⟨"ClosExchangeModel", "isMiddle", "(II)Z"⟩, 12) := ⟨⟨by decide +kernel, by decide +kernel⟩, List.mem_of_getElem? (i := 592) (by decide +kernel), List.mem_of_getElem? (i := 756) (by decide +kernel), List.mem_of_getElem? (i := 757) (by decide +kernel)⟩
theorem lw_p35 : lw_okq (⟨"ClosExchangeModel", "nextOff", "(I)I"⟩, 12) := ⟨⟨by decide +kernel, by decide +kernel⟩, List.mem_of_getElem? (i := 592) (by decide +kernel), List.mem_of_getElem? (i := 760) (by decide +kernel), List.mem_of_getElem? (i := 761) (by decide +kernel)⟩
theorem lw_p36 : lw_okq (⟨"ClosExchangeModel", "putsBack", "(II)I"⟩, 12) := ⟨⟨by decide +kernel, by decide +kernel⟩, List.mem_of_getElem? (i := 592) (by decide +kernel), List.mem_of_getElem? (i := 768) (by decide +kernel), List.mem_of_getElem? (i := 769) (by decide +kernel)⟩
theorem lw_p37 : lw_okq (⟨"ClosExchangeModel", "packs", "(I)I"⟩, 12) := ⟨⟨by decide +kernel, by decide +kernel⟩, List.mem_of_getElem? (i := 592) (by decide +kernel), List.mem_of_getElem? (i := 779) (by decide +kernel), List.mem_of_getElem? (i := 780) (by decide +kernel)⟩
theorem lw_p38 : lw_okq (⟨"ClosExchangeModel", "least", "(I)I"⟩, 12) := ⟨⟨by decide +kernel, by decide +kernel⟩, List.mem_of_getElem? (i := 592) (by decide +kernel), List.mem_of_getElem? (i := 783) (by decide +kernel), List.mem_of_getElem? (i := 784) (by decide +kernel)⟩
theorem lw_p39 : lw_okq (⟨"ClosExchangeModel", "fault", "()I"⟩, 12) := ⟨⟨by decide +kernel, by decide +kernel⟩, List.mem_of_getElem? (i := 592) (by decide +kernel), List.mem_of_getElem? (i := 799) (by decide +kernel), List.mem_of_getElem? (i := 800) (by decide +kernel)⟩
theorem lw_p40 : lw_okq (⟨"ClosExchangeModel", "reads", "()Z"⟩, 12) := ⟨⟨by decide +kernel, by decide +kernel⟩, List.mem_of_getElem? (i := 592) (by decide +kernel), List.mem_of_getElem? (i := 803) (by decide +kernel), List.mem_of_getElem? (i := 804) (by decide +kernel)⟩
theorem lw_p41 : lw_okq (⟨"ClosExchangeModel", "takes", "(I)Z"⟩, 12) := ⟨⟨by decide +kernel, by decide +kernel⟩, List.mem_of_getElem? (i := 592) (by decide +kernel), List.mem_of_getElem? (i := 807) (by decide +kernel), List.mem_of_getElem? (i := 808) (by decide +kernel)⟩
theorem lw_p42 : lw_okq (⟨"ClosExchangeModel", "isHere", "(II)Z"⟩, 12) := ⟨⟨by decide +kernel, by decide +kernel⟩, List.mem_of_getElem? (i := 592) (by decide +kernel), List.mem_of_getElem? (i := 811) (by decide +kernel), List.mem_of_getElem? (i := 812) (by decide +kernel)⟩
theorem lw_p43 : lw_okq (⟨"ClosExchangeModel", "number", "()I"⟩, 12) := ⟨⟨by decide +kernel, by decide +kernel⟩, List.mem_of_getElem? (i := 592) (by decide +kernel), List.mem_of_getElem? (i := 815) (by decide +kernel), List.mem_of_getElem? (i := 816) (by decide +kernel)⟩
theorem lw_p44 : lw_okq (⟨"ClosExchangeModel", "digit", "()I"⟩, 12) := ⟨⟨by decide +kernel, by decide +kernel⟩, List.mem_of_getElem? (i := 592) (by decide +kernel), List.mem_of_getElem? (i := 819) (by decide +kernel), List.mem_of_getElem? (i := 820) (by decide +kernel)⟩
theorem lw_p45 : lw_okq (⟨"ClosExchangeModel", "carries", "()I"⟩, 12) := ⟨⟨by decide +kernel, by decide +kernel⟩, List.mem_of_getElem? (i := 592) (by decide +kernel), List.mem_of_getElem? (i := 823) (by decide +kernel), List.mem_of_getElem? (i := 824) (by decide +kernel)⟩
theorem lw_p46 : lw_okq (⟨"ClosExchangeModel", "isBoard", "(I)Z"⟩, 12) := ⟨⟨by decide +kernel, by decide +kernel⟩, List.mem_of_getElem? (i := 592) (by decide +kernel), List.mem_of_getElem? (i := 864) (by decide +kernel), List.mem_of_getElem? (i := 865) (by decide +kernel)⟩
def lw_privs_3 : List (MethodName × Nat) := [(⟨"ClosExchangeModel", "disconnects", "(II)I"⟩, 12), (⟨"ClosExchangeModel", "takesOut", "(II)I"⟩, 12), (⟨"ClosExchangeModel", "isMiddle", "(II)Z"⟩, 12), (⟨"ClosExchangeModel", "nextOff", "(I)I"⟩, 12), (⟨"ClosExchangeModel", "putsBack", "(II)I"⟩, 12), (⟨"ClosExchangeModel", "packs", "(I)I"⟩, 12), (⟨"ClosExchangeModel", "least", "(I)I"⟩, 12), (⟨"ClosExchangeModel", "fault", "()I"⟩, 12), (⟨"ClosExchangeModel", "reads", "()Z"⟩, 12), (⟨"ClosExchangeModel", "takes", "(I)Z"⟩, 12), (⟨"ClosExchangeModel", "isHere", "(II)Z"⟩, 12), (⟨"ClosExchangeModel", "number", "()I"⟩, 12), (⟨"ClosExchangeModel", "digit", "()I"⟩, 12), (⟨"ClosExchangeModel", "carries", "()I"⟩, 12), (⟨"ClosExchangeModel", "isBoard", "(I)Z"⟩, 12)]
theorem lw_r3 : ∀ q ∈ lw_privs_3, lw_okq q := List.forall_mem_cons.mpr ⟨lw_p32, List.forall_mem_cons.mpr ⟨lw_p33, List.forall_mem_cons.mpr ⟨lw_p34, List.forall_mem_cons.mpr ⟨lw_p35, List.forall_mem_cons.mpr ⟨lw_p36, List.forall_mem_cons.mpr ⟨lw_p37, List.forall_mem_cons.mpr ⟨lw_p38, List.forall_mem_cons.mpr ⟨lw_p39, List.forall_mem_cons.mpr ⟨lw_p40, List.forall_mem_cons.mpr ⟨lw_p41, List.forall_mem_cons.mpr ⟨lw_p42, List.forall_mem_cons.mpr ⟨lw_p43, List.forall_mem_cons.mpr ⟨lw_p44, List.forall_mem_cons.mpr ⟨lw_p45, List.forall_mem_cons.mpr ⟨lw_p46, fun _ h => absurd h List.not_mem_nil⟩⟩⟩⟩⟩⟩⟩⟩⟩⟩⟩⟩⟩⟩⟩
def lw_privs : List (MethodName × Nat) := lw_privs_1 ++ (lw_privs_2 ++ (lw_privs_3))
def lw_tbl : List Cond := k2_sels lw_privs ++ tables_1
theorem lw_privs_ok : ∀ q ∈ lw_privs, lw_okq q := by
  show ∀ q ∈ lw_privs_1 ++ (lw_privs_2 ++ (lw_privs_3)), lw_okq q
  exact List.forall_mem_append.mpr ⟨lw_r1, List.forall_mem_append.mpr ⟨lw_r2, lw_r3⟩⟩
-- ===== end of PART A; then your names; then what follows =====
end
section
/-! ===== BEGIN words of one list among another's, by their places ===== -/
theorem goodIn_r {big : List Cond} (ws : List Cond) (ps : List Nat) (hp : ws = ps.filterMap (fun i => big[i]?)) (h : ws.all goodWord = true) : GoodIn big ws := by
  intro w hw
  have h1 := List.all_eq_true.mp h w hw
  rw [hp] at hw
  obtain ⟨i, -, hi⟩ := List.mem_filterMap.mp hw
  have hm : w ∈ big := by first | exact List.mem_of_getElem? hi | exact List.getElem?_mem hi
  exact ⟨hm, good_of_word h1⟩
theorem goodIn_app {big a b : List Cond} (ha : GoodIn big a) (hb : GoodIn big b) : GoodIn big (a ++ b) := fun w h => (List.mem_append.mp h).elim (ha w) (hb w)
theorem goodIn_ca {big a b : List Cond} {c : Cond} (ha : GoodIn big (c :: a)) (hb : GoodIn big b) : GoodIn big (c :: (a ++ b)) := fun w h => (List.mem_cons.mp h).elim (fun e => ha w (List.mem_cons.mpr (Or.inl e))) (fun h => (List.mem_append.mp h).elim (fun h => ha w (List.mem_cons.mpr (Or.inr h))) (hb w))
theorem goodIn_sub {big ws : List Cond} (hm : ∀ w ∈ ws, w ∈ big) (h : ws.all goodWord = true) : GoodIn big ws := fun w hw => ⟨hm w hw, good_of_word (List.all_eq_true.mp h w hw)⟩
/-! ===== END ===== -/

/-! ===== BEGIN printed: names, fields, word lists, decode rows ===== -/
def RX0 : String := "ClosExchange$History"
def TX0 : u_T := fun k => match k with
  | 0 => ("ClosExchange$History", "states", "[LClosExchange$Network;", true)
  | 1 => ("ClosExchange$History", "latest", "I", false)
  | _ => ("ClosExchange$History", "count", "I", false)
def tyX0 : Nat → FieldType := fun k => match k with
  | 0 => .array (.object "ClosExchange$Network")
  | 1 => .int
  | _ => .int
abbrev wsX00 : List Cond := u_ws RX0 TX0 3
theorem nmX0 : ∀ a, a < 3 → ∀ b, b < 3 → a ≠ b → (TX0 a).2.1 ≠ (TX0 b).2.1 := by decide +kernel
theorem tyX0_ok : ∀ k, k < 3 → parseFieldDescriptor (TX0 k).2.2.1 = some (tyX0 k) := by decide +kernel
abbrev cX0_init : ByteArray := prog_2_method_1_code
def yX0_init : MethodName := ⟨RX0, "<init>", "()V"⟩
abbrev cX0_push : ByteArray := prog_2_method_2_code
def yX0_push : MethodName := ⟨RX0, "push", "(LClosExchange$Network;)V"⟩
abbrev cX0_takeBack : ByteArray := prog_2_method_3_code
def yX0_takeBack : MethodName := ⟨RX0, "takeBack", "(LClosExchange$Network;)I"⟩
abbrev cX0_latestState : ByteArray := prog_2_method_4_code
def yX0_latestState : MethodName := ⟨RX0, "latestState", "()LClosExchange$Network;"⟩
def RX1 : String := "ClosExchange$Network"
def TX1 : u_T := fun k => match k with
  | 0 => ("ClosExchange$Network", "boards", "I", false)
  | 1 => ("ClosExchange$Network", "lines", "I", false)
  | 2 => ("ClosExchange$Network", "middles", "I", false)
  | 3 => ("ClosExchange$Network", "service", "I", false)
  | 4 => ("ClosExchange$Network", "choiceRule", "I", false)
  | 5 => ("ClosExchange$Network", "pairRule", "I", false)
  | 6 => ("ClosExchange$Network", "connected", "I", false)
  | 7 => ("ClosExchange$Network", "ended", "I", false)
  | 8 => ("ClosExchange$Network", "dropped", "I", false)
  | 9 => ("ClosExchange$Network", "moved", "I", false)
  | 10 => ("ClosExchange$Network", "numbers", "LClosExchange$Row;", true)
  | 11 => ("ClosExchange$Network", "outlets", "LClosExchange$Row;", true)
  | 12 => ("ClosExchange$Network", "vias", "LClosExchange$Row;", true)
  | 13 => ("ClosExchange$Network", "inlets", "LClosExchange$Row;", true)
  | 14 => ("ClosExchange$Network", "firstLinks", "LClosExchange$Row;", true)
  | _ => ("ClosExchange$Network", "lastLinks", "LClosExchange$Row;", true)
def tyX1 : Nat → FieldType := fun k => match k with
  | 0 => .int
  | 1 => .int
  | 2 => .int
  | 3 => .int
  | 4 => .int
  | 5 => .int
  | 6 => .int
  | 7 => .int
  | 8 => .int
  | 9 => .int
  | 10 => .object "ClosExchange$Row"
  | 11 => .object "ClosExchange$Row"
  | 12 => .object "ClosExchange$Row"
  | 13 => .object "ClosExchange$Row"
  | 14 => .object "ClosExchange$Row"
  | _ => .object "ClosExchange$Row"
abbrev wsX10 : List Cond := u_ws RX1 TX1 16
theorem nmX1 : ∀ a, a < 16 → ∀ b, b < 16 → a ≠ b → (TX1 a).2.1 ≠ (TX1 b).2.1 := by decide +kernel
theorem tyX1_ok : ∀ k, k < 16 → parseFieldDescriptor (TX1 k).2.2.1 = some (tyX1 k) := by decide +kernel
abbrev cX1_init : ByteArray := prog_3_method_1_code
def yX1_init : MethodName := ⟨RX1, "<init>", "()V"⟩
abbrev cX1_copyFrom : ByteArray := prog_3_method_2_code
def yX1_copyFrom : MethodName := ⟨RX1, "copyFrom", "(LClosExchange$Network;)V"⟩
abbrev cX1_rebuild : ByteArray := prog_3_method_3_code
def yX1_rebuild : MethodName := ⟨RX1, "rebuild", "(III)I"⟩
abbrev cX1_isLine : ByteArray := prog_3_method_4_code
def yX1_isLine : MethodName := ⟨RX1, "isLine", "(I)Z"⟩
abbrev cX1_isBoard : ByteArray := prog_3_method_5_code
def yX1_isBoard : MethodName := ⟨RX1, "isBoard", "(I)Z"⟩
abbrev cX1_isMiddle : ByteArray := prog_3_method_6_code
def yX1_isMiddle : MethodName := ⟨RX1, "isMiddle", "(I)Z"⟩
abbrev cX1_isInletBusy : ByteArray := prog_3_method_7_code
def yX1_isInletBusy : MethodName := ⟨RX1, "isInletBusy", "(I)Z"⟩
abbrev cX1_isOutletBusy : ByteArray := prog_3_method_8_code
def yX1_isOutletBusy : MethodName := ⟨RX1, "isOutletBusy", "(I)Z"⟩
abbrev cX1_boardOf : ByteArray := prog_3_method_9_code
def yX1_boardOf : MethodName := ⟨RX1, "boardOf", "(I)I"⟩
abbrev cX1_countCalls : ByteArray := prog_3_method_10_code
def yX1_countCalls : MethodName := ⟨RX1, "countCalls", "()I"⟩
abbrev cX1_findInlet : ByteArray := prog_3_method_11_code
def yX1_findInlet : MethodName := ⟨RX1, "findInlet", "(I)I"⟩
abbrev cX1_loadOf : ByteArray := prog_3_method_12_code
def yX1_loadOf : MethodName := ⟨RX1, "loadOf", "(I)I"⟩
abbrev cX1_freeOnLinks : ByteArray := prog_3_method_13_code
def yX1_freeOnLinks : MethodName := ⟨RX1, "freeOnLinks", "(LClosExchange$Row;I)I"⟩
abbrev cX1_fullestBoard : ByteArray := prog_3_method_14_code
def yX1_fullestBoard : MethodName := ⟨RX1, "fullestBoard", "()I"⟩
abbrev cX1_addCall : ByteArray := prog_3_method_15_code
def yX1_addCall : MethodName := ⟨RX1, "addCall", "(II)V"⟩
abbrev cX1_removeCall : ByteArray := prog_3_method_16_code
def yX1_removeCall : MethodName := ⟨RX1, "removeCall", "(I)V"⟩
abbrev cX1_carryCall : ByteArray := prog_3_method_17_code
def yX1_carryCall : MethodName := ⟨RX1, "carryCall", "(II)V"⟩
abbrev cX1_liftCall : ByteArray := prog_3_method_18_code
def yX1_liftCall : MethodName := ⟨RX1, "liftCall", "(I)V"⟩
abbrev cX1_firstLifted : ByteArray := prog_3_method_19_code
def yX1_firstLifted : MethodName := ⟨RX1, "firstLifted", "()I"⟩
def RX2 : String := "ClosExchange$OrderText"
def TX2 : u_T := fun k => match k with
  | 0 => ("ClosExchange$OrderText", "signs", "LClosExchange$Row;", true)
  | 1 => ("ClosExchange$OrderText", "length", "I", false)
  | 2 => ("ClosExchange$OrderText", "place", "I", false)
  | 3 => ("ClosExchange$OrderText", "kind", "I", false)
  | 4 => ("ClosExchange$OrderText", "first", "I", false)
  | _ => ("ClosExchange$OrderText", "second", "I", false)
def tyX2 : Nat → FieldType := fun k => match k with
  | 0 => .object "ClosExchange$Row"
  | 1 => .int
  | 2 => .int
  | 3 => .int
  | 4 => .int
  | _ => .int
abbrev wsX20 : List Cond := u_ws RX2 TX2 6
theorem nmX2 : ∀ a, a < 6 → ∀ b, b < 6 → a ≠ b → (TX2 a).2.1 ≠ (TX2 b).2.1 := by decide +kernel
theorem tyX2_ok : ∀ k, k < 6 → parseFieldDescriptor (TX2 k).2.2.1 = some (tyX2 k) := by decide +kernel
abbrev cX2_init : ByteArray := prog_4_method_1_code
def yX2_init : MethodName := ⟨RX2, "<init>", "()V"⟩
abbrev cX2_append : ByteArray := prog_4_method_2_code
def yX2_append : MethodName := ⟨RX2, "append", "(I)I"⟩
abbrev cX2_rewind : ByteArray := prog_4_method_3_code
def yX2_rewind : MethodName := ⟨RX2, "rewind", "()V"⟩
abbrev cX2_findFault : ByteArray := prog_4_method_4_code
def yX2_findFault : MethodName := ⟨RX2, "findFault", "()I"⟩
abbrev cX2_readOrder : ByteArray := prog_4_method_5_code
def yX2_readOrder : MethodName := ⟨RX2, "readOrder", "()Z"⟩
abbrev cX2_skip : ByteArray := prog_4_method_6_code
def yX2_skip : MethodName := ⟨RX2, "skip", "(I)Z"⟩
abbrev cX2_sign : ByteArray := prog_4_method_7_code
def yX2_sign : MethodName := ⟨RX2, "sign", "()I"⟩
abbrev cX2_readNumber : ByteArray := prog_4_method_8_code
def yX2_readNumber : MethodName := ⟨RX2, "readNumber", "(I)I"⟩
def RX3 : String := "ClosExchange$Router"
def TX3 : u_T := fun k => match k with
  | 0 => ("ClosExchange$Router", "chain", "LClosExchange$Row;", true)
  | 1 => ("ClosExchange$Router", "chainLength", "I", false)
  | 2 => ("ClosExchange$Router", "pairP", "I", false)
  | 3 => ("ClosExchange$Router", "pairQ", "I", false)
  | _ => ("ClosExchange$Router", "formerVias", "LClosExchange$Row;", true)
def tyX3 : Nat → FieldType := fun k => match k with
  | 0 => .object "ClosExchange$Row"
  | 1 => .int
  | 2 => .int
  | 3 => .int
  | _ => .object "ClosExchange$Row"
abbrev wsX30 : List Cond := u_ws RX3 TX3 5
theorem nmX3 : ∀ a, a < 5 → ∀ b, b < 5 → a ≠ b → (TX3 a).2.1 ≠ (TX3 b).2.1 := by decide +kernel
theorem tyX3_ok : ∀ k, k < 5 → parseFieldDescriptor (TX3 k).2.2.1 = some (tyX3 k) := by decide +kernel
abbrev cX3_init : ByteArray := prog_5_method_1_code
def yX3_init : MethodName := ⟨RX3, "<init>", "()V"⟩
abbrev cX3_join : ByteArray := prog_5_method_2_code
def yX3_join : MethodName := ⟨RX3, "join", "(LClosExchange$Network;II)I"⟩
abbrev cX3_part : ByteArray := prog_5_method_3_code
def yX3_part : MethodName := ⟨RX3, "part", "(LClosExchange$Network;I)I"⟩
abbrev cX3_retire : ByteArray := prog_5_method_4_code
def yX3_retire : MethodName := ⟨RX3, "retire", "(LClosExchange$Network;I)I"⟩
abbrev cX3_revive : ByteArray := prog_5_method_5_code
def yX3_revive : MethodName := ⟨RX3, "revive", "(LClosExchange$Network;I)I"⟩
abbrev cX3_repack : ByteArray := prog_5_method_6_code
def yX3_repack : MethodName := ⟨RX3, "repack", "(LClosExchange$Network;)I"⟩
abbrev cX3_tryCall : ByteArray := prog_5_method_7_code
def yX3_tryCall : MethodName := ⟨RX3, "tryCall", "(LClosExchange$Network;II)I"⟩
abbrev cX3_reroute : ByteArray := prog_5_method_8_code
def yX3_reroute : MethodName := ⟨RX3, "reroute", "(LClosExchange$Network;)I"⟩
abbrev cX3_findWay : ByteArray := prog_5_method_9_code
def yX3_findWay : MethodName := ⟨RX3, "findWay", "(LClosExchange$Network;II)I"⟩
abbrev cX3_choose : ByteArray := prog_5_method_10_code
def yX3_choose : MethodName := ⟨RX3, "choose", "(LClosExchange$Network;I)I"⟩
abbrev cX3_findPair : ByteArray := prog_5_method_11_code
def yX3_findPair : MethodName := ⟨RX3, "findPair", "(LClosExchange$Network;III)V"⟩
abbrev cX3_follow : ByteArray := prog_5_method_12_code
def yX3_follow : MethodName := ⟨RX3, "follow", "(LClosExchange$Network;III)V"⟩
abbrev cX3_settle : ByteArray := prog_5_method_13_code
def yX3_settle : MethodName := ⟨RX3, "settle", "(LClosExchange$Network;II)V"⟩
abbrev cX3_countChanged : ByteArray := prog_5_method_14_code
def yX3_countChanged : MethodName := ⟨RX3, "countChanged", "(LClosExchange$Network;)I"⟩
abbrev cX3_lowestBits : ByteArray := prog_5_method_15_code
def yX3_lowestBits : MethodName := ⟨RX3, "lowestBits", "(II)I"⟩
def RX4 : String := "ClosExchange$Row"
def TX4 : u_T := fun k => match k with
  | _ => ("ClosExchange$Row", "cells", "[I", true)
def tyX4 : Nat → FieldType := fun k => match k with
  | _ => .array .int
abbrev wsX40 : List Cond := u_ws RX4 TX4 1
theorem nmX4 : ∀ a, a < 1 → ∀ b, b < 1 → a ≠ b → (TX4 a).2.1 ≠ (TX4 b).2.1 := by decide +kernel
theorem tyX4_ok : ∀ k, k < 1 → parseFieldDescriptor (TX4 k).2.2.1 = some (tyX4 k) := by decide +kernel
abbrev cX4_init : ByteArray := prog_6_method_1_code
def yX4_init : MethodName := ⟨RX4, "<init>", "(I)V"⟩
abbrev cX4_get : ByteArray := prog_6_method_2_code
def yX4_get : MethodName := ⟨RX4, "get", "(I)I"⟩
abbrev cX4_set : ByteArray := prog_6_method_3_code
def yX4_set : MethodName := ⟨RX4, "set", "(II)V"⟩
abbrev cX4_empty : ByteArray := prog_6_method_4_code
def yX4_empty : MethodName := ⟨RX4, "empty", "()V"⟩
abbrev cX4_copyFrom : ByteArray := prog_6_method_5_code
def yX4_copyFrom : MethodName := ⟨RX4, "copyFrom", "(LClosExchange$Row;)V"⟩
def RX5 : String := "ClosExchange"
def TX5 : u_T := fun k => match k with
  | 0 => ("ClosExchange", "network", "LClosExchange$Network;", true)
  | 1 => ("ClosExchange", "before", "LClosExchange$Network;", true)
  | 2 => ("ClosExchange", "snapshot", "LClosExchange$Network;", true)
  | 3 => ("ClosExchange", "trial", "LClosExchange$Network;", true)
  | 4 => ("ClosExchange", "router", "LClosExchange$Router;", true)
  | 5 => ("ClosExchange", "history", "LClosExchange$History;", true)
  | 6 => ("ClosExchange", "text", "LClosExchange$OrderText;", true)
  | _ => ("ClosExchange", "kept", "Z", false)
def tyX5 : Nat → FieldType := fun k => match k with
  | 0 => .object "ClosExchange$Network"
  | 1 => .object "ClosExchange$Network"
  | 2 => .object "ClosExchange$Network"
  | 3 => .object "ClosExchange$Network"
  | 4 => .object "ClosExchange$Router"
  | 5 => .object "ClosExchange$History"
  | 6 => .object "ClosExchange$OrderText"
  | _ => .boolean
abbrev wsX50 : List Cond := u_ws RX5 TX5 8
theorem nmX5 : ∀ a, a < 8 → ∀ b, b < 8 → a ≠ b → (TX5 a).2.1 ≠ (TX5 b).2.1 := by decide +kernel
theorem tyX5_ok : ∀ k, k < 8 → parseFieldDescriptor (TX5 k).2.2.1 = some (tyX5 k) := by decide +kernel
abbrev cX5_init : ByteArray := prog_1_method_1_code
def yX5_init : MethodName := ⟨RX5, "<init>", "()V"⟩
abbrev cX5_setUp : ByteArray := prog_1_method_2_code
def yX5_setUp : MethodName := ⟨RX5, "setUp", "(III)I"⟩
abbrev cX5_setChoiceRule : ByteArray := prog_1_method_3_code
def yX5_setChoiceRule : MethodName := ⟨RX5, "setChoiceRule", "(I)I"⟩
abbrev cX5_setPairRule : ByteArray := prog_1_method_4_code
def yX5_setPairRule : MethodName := ⟨RX5, "setPairRule", "(I)I"⟩
abbrev cX5_connect : ByteArray := prog_1_method_5_code
def yX5_connect : MethodName := ⟨RX5, "connect", "(II)I"⟩
abbrev cX5_disconnect : ByteArray := prog_1_method_6_code
def yX5_disconnect : MethodName := ⟨RX5, "disconnect", "(I)I"⟩
abbrev cX5_takeOut : ByteArray := prog_1_method_7_code
def yX5_takeOut : MethodName := ⟨RX5, "takeOut", "(I)I"⟩
abbrev cX5_putBack : ByteArray := prog_1_method_8_code
def yX5_putBack : MethodName := ⟨RX5, "putBack", "(I)I"⟩
abbrev cX5_pack : ByteArray := prog_1_method_9_code
def yX5_pack : MethodName := ⟨RX5, "pack", "()I"⟩
abbrev cX5_type : ByteArray := prog_1_method_10_code
def yX5_type : MethodName := ⟨RX5, "type", "(C)I"⟩
abbrev cX5_clearText : ByteArray := prog_1_method_11_code
def yX5_clearText : MethodName := ⟨RX5, "clearText", "()I"⟩
abbrev cX5_perform : ByteArray := prog_1_method_12_code
def yX5_perform : MethodName := ⟨RX5, "perform", "()I"⟩
abbrev cX5_undo : ByteArray := prog_1_method_13_code
def yX5_undo : MethodName := ⟨RX5, "undo", "()I"⟩
abbrev cX5_keep : ByteArray := prog_1_method_14_code
def yX5_keep : MethodName := ⟨RX5, "keep", "()I"⟩
abbrev cX5_restore : ByteArray := prog_1_method_15_code
def yX5_restore : MethodName := ⟨RX5, "restore", "()I"⟩
abbrev cX5_callOfInlet : ByteArray := prog_1_method_16_code
def yX5_callOfInlet : MethodName := ⟨RX5, "callOfInlet", "(I)I"⟩
abbrev cX5_callOfOutlet : ByteArray := prog_1_method_17_code
def yX5_callOfOutlet : MethodName := ⟨RX5, "callOfOutlet", "(I)I"⟩
abbrev cX5_inletOf : ByteArray := prog_1_method_18_code
def yX5_inletOf : MethodName := ⟨RX5, "inletOf", "(I)I"⟩
abbrev cX5_outletOf : ByteArray := prog_1_method_19_code
def yX5_outletOf : MethodName := ⟨RX5, "outletOf", "(I)I"⟩
abbrev cX5_middleOf : ByteArray := prog_1_method_20_code
def yX5_middleOf : MethodName := ⟨RX5, "middleOf", "(I)I"⟩
abbrev cX5_onFirstLink : ByteArray := prog_1_method_21_code
def yX5_onFirstLink : MethodName := ⟨RX5, "onFirstLink", "(II)I"⟩
abbrev cX5_onLastLink : ByteArray := prog_1_method_22_code
def yX5_onLastLink : MethodName := ⟨RX5, "onLastLink", "(II)I"⟩
abbrev cX5_load : ByteArray := prog_1_method_23_code
def yX5_load : MethodName := ⟨RX5, "load", "(I)I"⟩
abbrev cX5_freeForFirst : ByteArray := prog_1_method_24_code
def yX5_freeForFirst : MethodName := ⟨RX5, "freeForFirst", "(I)I"⟩
abbrev cX5_freeForLast : ByteArray := prog_1_method_25_code
def yX5_freeForLast : MethodName := ⟨RX5, "freeForLast", "(I)I"⟩
abbrev cX5_inService : ByteArray := prog_1_method_26_code
def yX5_inService : MethodName := ⟨RX5, "inService", "()I"⟩
abbrev cX5_total : ByteArray := prog_1_method_27_code
def yX5_total : MethodName := ⟨RX5, "total", "(I)I"⟩
abbrev cX5_wouldMove : ByteArray := prog_1_method_28_code
def yX5_wouldMove : MethodName := ⟨RX5, "wouldMove", "(II)I"⟩
abbrev cX5_chainCall : ByteArray := prog_1_method_29_code
def yX5_chainCall : MethodName := ⟨RX5, "chainCall", "(III)I"⟩
abbrev cX5_reason : ByteArray := prog_1_method_30_code
def yX5_reason : MethodName := ⟨RX5, "reason", "(II)I"⟩
abbrev cX5_leastMiddles : ByteArray := prog_1_method_31_code
def yX5_leastMiddles : MethodName := ⟨RX5, "leastMiddles", "()I"⟩
abbrev cX5_wouldDrop : ByteArray := prog_1_method_32_code
def yX5_wouldDrop : MethodName := ⟨RX5, "wouldDrop", "(I)I"⟩
abbrev cX5_reachable : ByteArray := prog_1_method_33_code
def yX5_reachable : MethodName := ⟨RX5, "reachable", "(I)I"⟩
abbrev cX5_within : ByteArray := prog_1_method_34_code
def yX5_within : MethodName := ⟨RX5, "within", "(III)Z"⟩
abbrev cX5_hasBit : ByteArray := prog_1_method_35_code
def yX5_hasBit : MethodName := ⟨RX5, "hasBit", "(II)Z"⟩
abbrev cX5_link : ByteArray := prog_1_method_36_code
def yX5_link : MethodName := ⟨RX5, "link", "(II)I"⟩
abbrev cX5_recorded : ByteArray := prog_1_method_37_code
def yX5_recorded : MethodName := ⟨RX5, "recorded", "(I)I"⟩
abbrev cX5_obey : ByteArray := prog_1_method_38_code
def yX5_obey : MethodName := ⟨RX5, "obey", "()I"⟩
def RX6 : String := "ClosExchangeModel"
def TX6 : u_T := fun k => match k with
  | 0 => ("ClosExchangeModel", "s", "[I", true)
  | 1 => ("ClosExchangeModel", "states", "I", false)
  | 2 => ("ClosExchangeModel", "isKept", "Z", false)
  | 3 => ("ClosExchangeModel", "text", "[I", true)
  | 4 => ("ClosExchangeModel", "typed", "I", false)
  | 5 => ("ClosExchangeModel", "at", "I", false)
  | 6 => ("ClosExchangeModel", "order", "I", false)
  | 7 => ("ClosExchangeModel", "first", "I", false)
  | 8 => ("ClosExchangeModel", "second", "I", false)
  | 9 => ("ClosExchangeModel", "chain", "[I", true)
  | 10 => ("ClosExchangeModel", "chained", "I", false)
  | _ => ("ClosExchangeModel", "before", "[I", true)
def tyX6 : Nat → FieldType := fun k => match k with
  | 0 => .array .int
  | 1 => .int
  | 2 => .boolean
  | 3 => .array .int
  | 4 => .int
  | 5 => .int
  | 6 => .int
  | 7 => .int
  | 8 => .int
  | 9 => .array .int
  | 10 => .int
  | _ => .array .int
abbrev wsX60 : List Cond := u_ws RX6 TX6 12
theorem nmX6 : ∀ a, a < 12 → ∀ b, b < 12 → a ≠ b → (TX6 a).2.1 ≠ (TX6 b).2.1 := by decide +kernel
theorem tyX6_ok : ∀ k, k < 12 → parseFieldDescriptor (TX6 k).2.2.1 = some (tyX6 k) := by decide +kernel
abbrev cX6_init : ByteArray := prog_8_method_1_code
def yX6_init : MethodName := ⟨RX6, "<init>", "()V"⟩
abbrev cX6_in : ByteArray := prog_8_method_2_code
def yX6_in : MethodName := ⟨RX6, "in", "(III)Z"⟩
abbrev cX6_has : ByteArray := prog_8_method_3_code
def yX6_has : MethodName := ⟨RX6, "has", "(II)Z"⟩
abbrev cX6_lowest : ByteArray := prog_8_method_4_code
def yX6_lowest : MethodName := ⟨RX6, "lowest", "(I)I"⟩
abbrev cX6_bits : ByteArray := prog_8_method_5_code
def yX6_bits : MethodName := ⟨RX6, "bits", "(I)I"⟩
abbrev cX6_of : ByteArray := prog_8_method_6_code
def yX6_of : MethodName := ⟨RX6, "of", "(III)I"⟩
abbrev cX6_lay : ByteArray := prog_8_method_7_code
def yX6_lay : MethodName := ⟨RX6, "lay", "(IIII)V"⟩
abbrev cX6_lines : ByteArray := prog_8_method_8_code
def yX6_lines : MethodName := ⟨RX6, "lines", "(I)I"⟩
abbrev cX6_isLine : ByteArray := prog_8_method_9_code
def yX6_isLine : MethodName := ⟨RX6, "isLine", "(II)Z"⟩
abbrev cX6_isBoard : ByteArray := prog_8_method_10_code
def yX6_isBoard : MethodName := ⟨RX6, "isBoard", "(I)Z"⟩
abbrev cX6_isMiddle : ByteArray := prog_8_method_11_code
def yX6_isMiddle : MethodName := ⟨RX6, "isMiddle", "(II)Z"⟩
abbrev cX6_builds : ByteArray := prog_8_method_12_code
def yX6_builds : MethodName := ⟨RX6, "builds", "(IIII)V"⟩
abbrev cX6_calls : ByteArray := prog_8_method_13_code
def yX6_calls : MethodName := ⟨RX6, "calls", "(I)I"⟩
abbrev cX6_inletTo : ByteArray := prog_8_method_14_code
def yX6_inletTo : MethodName := ⟨RX6, "inletTo", "(II)I"⟩
abbrev cX6_onFirst : ByteArray := prog_8_method_15_code
def yX6_onFirst : MethodName := ⟨RX6, "onFirst", "(III)I"⟩
abbrev cX6_onLast : ByteArray := prog_8_method_16_code
def yX6_onLast : MethodName := ⟨RX6, "onLast", "(III)I"⟩
abbrev cX6_loadOf : ByteArray := prog_8_method_17_code
def yX6_loadOf : MethodName := ⟨RX6, "loadOf", "(II)I"⟩
abbrev cX6_freeAhead : ByteArray := prog_8_method_18_code
def yX6_freeAhead : MethodName := ⟨RX6, "freeAhead", "(II)I"⟩
abbrev cX6_freeBehind : ByteArray := prog_8_method_19_code
def yX6_freeBehind : MethodName := ⟨RX6, "freeBehind", "(II)I"⟩
abbrev cX6_chosen : ByteArray := prog_8_method_20_code
def yX6_chosen : MethodName := ⟨RX6, "chosen", "(II)I"⟩
abbrev cX6_lays : ByteArray := prog_8_method_21_code
def yX6_lays : MethodName := ⟨RX6, "lays", "(IIII)I"⟩
abbrev cX6_pairOf : ByteArray := prog_8_method_22_code
def yX6_pairOf : MethodName := ⟨RX6, "pairOf", "(IIII)I"⟩
abbrev cX6_routes : ByteArray := prog_8_method_23_code
def yX6_routes : MethodName := ⟨RX6, "routes", "(II)I"⟩
abbrev cX6_nextOff : ByteArray := prog_8_method_24_code
def yX6_nextOff : MethodName := ⟨RX6, "nextOff", "(I)I"⟩
abbrev cX6_connects : ByteArray := prog_8_method_25_code
def yX6_connects : MethodName := ⟨RX6, "connects", "(III)I"⟩
abbrev cX6_disconnects : ByteArray := prog_8_method_26_code
def yX6_disconnects : MethodName := ⟨RX6, "disconnects", "(II)I"⟩
abbrev cX6_takesOut : ByteArray := prog_8_method_27_code
def yX6_takesOut : MethodName := ⟨RX6, "takesOut", "(II)I"⟩
abbrev cX6_putsBack : ByteArray := prog_8_method_28_code
def yX6_putsBack : MethodName := ⟨RX6, "putsBack", "(II)I"⟩
abbrev cX6_least : ByteArray := prog_8_method_29_code
def yX6_least : MethodName := ⟨RX6, "least", "(I)I"⟩
abbrev cX6_packs : ByteArray := prog_8_method_30_code
def yX6_packs : MethodName := ⟨RX6, "packs", "(I)I"⟩
abbrev cX6_copies : ByteArray := prog_8_method_31_code
def yX6_copies : MethodName := ⟨RX6, "copies", "(II)V"⟩
abbrev cX6_accepts : ByteArray := prog_8_method_32_code
def yX6_accepts : MethodName := ⟨RX6, "accepts", "(I)I"⟩
abbrev cX6_setUp : ByteArray := prog_8_method_33_code
def yX6_setUp : MethodName := ⟨RX6, "setUp", "(III)I"⟩
abbrev cX6_rules : ByteArray := prog_8_method_34_code
def yX6_rules : MethodName := ⟨RX6, "rules", "(III)I"⟩
abbrev cX6_setChoiceRule : ByteArray := prog_8_method_35_code
def yX6_setChoiceRule : MethodName := ⟨RX6, "setChoiceRule", "(I)I"⟩
abbrev cX6_setPairRule : ByteArray := prog_8_method_36_code
def yX6_setPairRule : MethodName := ⟨RX6, "setPairRule", "(I)I"⟩
abbrev cX6_connect : ByteArray := prog_8_method_37_code
def yX6_connect : MethodName := ⟨RX6, "connect", "(II)I"⟩
abbrev cX6_disconnect : ByteArray := prog_8_method_38_code
def yX6_disconnect : MethodName := ⟨RX6, "disconnect", "(I)I"⟩
abbrev cX6_takeOut : ByteArray := prog_8_method_39_code
def yX6_takeOut : MethodName := ⟨RX6, "takeOut", "(I)I"⟩
abbrev cX6_putBack : ByteArray := prog_8_method_40_code
def yX6_putBack : MethodName := ⟨RX6, "putBack", "(I)I"⟩
abbrev cX6_pack : ByteArray := prog_8_method_41_code
def yX6_pack : MethodName := ⟨RX6, "pack", "()I"⟩
abbrev cX6_type : ByteArray := prog_8_method_42_code
def yX6_type : MethodName := ⟨RX6, "type", "(C)I"⟩
abbrev cX6_clearText : ByteArray := prog_8_method_43_code
def yX6_clearText : MethodName := ⟨RX6, "clearText", "()I"⟩
abbrev cX6_isHere : ByteArray := prog_8_method_44_code
def yX6_isHere : MethodName := ⟨RX6, "isHere", "(II)Z"⟩
abbrev cX6_takes : ByteArray := prog_8_method_45_code
def yX6_takes : MethodName := ⟨RX6, "takes", "(I)Z"⟩
abbrev cX6_number : ByteArray := prog_8_method_46_code
def yX6_number : MethodName := ⟨RX6, "number", "()I"⟩
abbrev cX6_digit : ByteArray := prog_8_method_47_code
def yX6_digit : MethodName := ⟨RX6, "digit", "()I"⟩
abbrev cX6_reads : ByteArray := prog_8_method_48_code
def yX6_reads : MethodName := ⟨RX6, "reads", "()Z"⟩
abbrev cX6_fault : ByteArray := prog_8_method_49_code
def yX6_fault : MethodName := ⟨RX6, "fault", "()I"⟩
abbrev cX6_carries : ByteArray := prog_8_method_50_code
def yX6_carries : MethodName := ⟨RX6, "carries", "()I"⟩
abbrev cX6_perform : ByteArray := prog_8_method_51_code
def yX6_perform : MethodName := ⟨RX6, "perform", "()I"⟩
abbrev cX6_undo : ByteArray := prog_8_method_52_code
def yX6_undo : MethodName := ⟨RX6, "undo", "()I"⟩
abbrev cX6_keep : ByteArray := prog_8_method_53_code
def yX6_keep : MethodName := ⟨RX6, "keep", "()I"⟩
abbrev cX6_restore : ByteArray := prog_8_method_54_code
def yX6_restore : MethodName := ⟨RX6, "restore", "()I"⟩
abbrev cX6_callOfInlet : ByteArray := prog_8_method_55_code
def yX6_callOfInlet : MethodName := ⟨RX6, "callOfInlet", "(I)I"⟩
abbrev cX6_callOfOutlet : ByteArray := prog_8_method_56_code
def yX6_callOfOutlet : MethodName := ⟨RX6, "callOfOutlet", "(I)I"⟩
abbrev cX6_inletOf : ByteArray := prog_8_method_57_code
def yX6_inletOf : MethodName := ⟨RX6, "inletOf", "(I)I"⟩
abbrev cX6_outletOf : ByteArray := prog_8_method_58_code
def yX6_outletOf : MethodName := ⟨RX6, "outletOf", "(I)I"⟩
abbrev cX6_middleOf : ByteArray := prog_8_method_59_code
def yX6_middleOf : MethodName := ⟨RX6, "middleOf", "(I)I"⟩
abbrev cX6_onFirstLink : ByteArray := prog_8_method_60_code
def yX6_onFirstLink : MethodName := ⟨RX6, "onFirstLink", "(II)I"⟩
abbrev cX6_onLastLink : ByteArray := prog_8_method_61_code
def yX6_onLastLink : MethodName := ⟨RX6, "onLastLink", "(II)I"⟩
abbrev cX6_load : ByteArray := prog_8_method_62_code
def yX6_load : MethodName := ⟨RX6, "load", "(I)I"⟩
abbrev cX6_freeForFirst : ByteArray := prog_8_method_63_code
def yX6_freeForFirst : MethodName := ⟨RX6, "freeForFirst", "(I)I"⟩
abbrev cX6_freeForLast : ByteArray := prog_8_method_64_code
def yX6_freeForLast : MethodName := ⟨RX6, "freeForLast", "(I)I"⟩
abbrev cX6_inService : ByteArray := prog_8_method_65_code
def yX6_inService : MethodName := ⟨RX6, "inService", "()I"⟩
abbrev cX6_total : ByteArray := prog_8_method_66_code
def yX6_total : MethodName := ⟨RX6, "total", "(I)I"⟩
abbrev cX6_wouldMove : ByteArray := prog_8_method_67_code
def yX6_wouldMove : MethodName := ⟨RX6, "wouldMove", "(II)I"⟩
abbrev cX6_chainCall : ByteArray := prog_8_method_68_code
def yX6_chainCall : MethodName := ⟨RX6, "chainCall", "(III)I"⟩
abbrev cX6_reason : ByteArray := prog_8_method_69_code
def yX6_reason : MethodName := ⟨RX6, "reason", "(II)I"⟩
abbrev cX6_leastMiddles : ByteArray := prog_8_method_70_code
def yX6_leastMiddles : MethodName := ⟨RX6, "leastMiddles", "()I"⟩
abbrev cX6_wouldDrop : ByteArray := prog_8_method_71_code
def yX6_wouldDrop : MethodName := ⟨RX6, "wouldDrop", "(I)I"⟩
abbrev cX6_reachable : ByteArray := prog_8_method_72_code
def yX6_reachable : MethodName := ⟨RX6, "reachable", "(I)I"⟩
def RJ6 : String := "java/lang/Integer"
def TJ6 : u_T := fun k => match k with
  | _ => ("", "", "", false)
def tyJ6 : Nat → FieldType := fun k => match k with
  | _ => .int
abbrev wsJ60 : List Cond := u_ws RJ6 TJ6 0
theorem nmJ6 : ∀ a, a < 0 → ∀ b, b < 0 → a ≠ b → (TJ6 a).2.1 ≠ (TJ6 b).2.1 := by decide +kernel
theorem tyJ6_ok : ∀ k, k < 0 → parseFieldDescriptor (TJ6 k).2.2.1 = some (tyJ6 k) := by decide +kernel
abbrev cJ6_bitCount_0f7a4 : ByteArray := prog_9_method_49_code
def yJ6_bitCount_0f7a4 : MethodName := ⟨RJ6, "bitCount", "(I)I"⟩
def RJ9 : String := "java/lang/Math"
def TJ9 : u_T := fun k => match k with
  | _ => ("", "", "", false)
def tyJ9 : Nat → FieldType := fun k => match k with
  | _ => .int
abbrev wsJ90 : List Cond := u_ws RJ9 TJ9 0
theorem nmJ9 : ∀ a, a < 0 → ∀ b, b < 0 → a ≠ b → (TJ9 a).2.1 ≠ (TJ9 b).2.1 := by decide +kernel
theorem tyJ9_ok : ∀ k, k < 0 → parseFieldDescriptor (TJ9 k).2.2.1 = some (tyJ9 k) := by decide +kernel
abbrev cJ9_max_7cf53 : ByteArray := prog_10_method_65_code
def yJ9_max_7cf53 : MethodName := ⟨RJ9, "max", "(II)I"⟩
abbrev cJ9_min_7cf53 : ByteArray := prog_10_method_69_code
def yJ9_min_7cf53 : MethodName := ⟨RJ9, "min", "(II)I"⟩
def RJ10 : String := "java/lang/System"
def TJ10 : u_T := fun k => match k with
  | _ => ("", "", "", false)
def tyJ10 : Nat → FieldType := fun k => match k with
  | _ => .int
abbrev wsJ100 : List Cond := u_ws RJ10 TJ10 0
theorem nmJ10 : ∀ a, a < 0 → ∀ b, b < 0 → a ≠ b → (TJ10 a).2.1 ≠ (TJ10 b).2.1 := by decide +kernel
theorem tyJ10_ok : ∀ k, k < 0 → parseFieldDescriptor (TJ10 k).2.2.1 = some (tyJ10 k) := by decide +kernel
def RJ7 : String := "java/util/Arrays"
def TJ7 : u_T := fun k => match k with
  | _ => ("", "", "", false)
def tyJ7 : Nat → FieldType := fun k => match k with
  | _ => .int
abbrev wsJ70 : List Cond := u_ws RJ7 TJ7 0
theorem nmJ7 : ∀ a, a < 0 → ∀ b, b < 0 → a ≠ b → (TJ7 a).2.1 ≠ (TJ7 b).2.1 := by decide +kernel
theorem tyJ7_ok : ∀ k, k < 0 → parseFieldDescriptor (TJ7 k).2.2.1 = some (tyJ7 k) := by decide +kernel
abbrev cJ7_fill_53178 : ByteArray := prog_12_method_103_code
def yJ7_fill_53178 : MethodName := ⟨RJ7, "fill", "([II)V"⟩
def RL : String := "ClosExchangeLaw"
abbrev cL_law : ByteArray := code
def yL_law : MethodName := ⟨RL, "law", "([I)Z"⟩
def wsJ7_fill_53178 : List Cond := .code yJ7_fill_53178 cJ7_fill_53178 4 none :: ([])
def wsX4_init : List Cond := .code yX4_init cX4_init 2 none :: ([.methodLink RX4 3 objectInit, .instanceMethod objectInit, .code objectInit ⟨#[0xb1]⟩ 1 none, .methodLink RX4 9 Lib.Math.max.name, .static Lib.Math.max.name, .initialized "java/lang/Math", .code Lib.Math.max.name Lib.Math.max.code 2 (some .int), .arrayClass .int, .fieldLink RX4 15 "ClosExchange$Row" "cells" "[I", .methodLink RX4 21 yJ7_fill_53178, .static yJ7_fill_53178, .initialized RJ7, .code yJ7_fill_53178 cJ7_fill_53178 4 none] ++ wsX40)
def wsX1_init_r1 : List Cond := [Cond.methodLink RX1 3 objectInit, Cond.instanceMethod objectInit, Cond.code objectInit ⟨#[0xb1]⟩ 1 none, Cond.fieldLink RX1 9 "ClosExchange$Network" "boards" "I", Cond.fieldLink RX1 15 "ClosExchange$Network" "lines" "I", Cond.fieldLink RX1 18 "ClosExchange$Network" "middles" "I", Cond.fieldLink RX1 21 "ClosExchange$Network" "service" "I", Cond.classLink RX1 24 RX4, Cond.instantiable RX4 1, Cond.initialized RX4, Cond.fieldLink RX1 29 "ClosExchange$Network" "numbers" "LClosExchange$Row;", Cond.fieldLink RX1 33 "ClosExchange$Network" "outlets" "LClosExchange$Row;", Cond.fieldLink RX1 36 "ClosExchange$Network" "vias" "LClosExchange$Row;", Cond.fieldLink RX1 39 "ClosExchange$Network" "inlets" "LClosExchange$Row;", Cond.fieldLink RX1 42 "ClosExchange$Network" "firstLinks" "LClosExchange$Row;", Cond.fieldLink RX1 45 "ClosExchange$Network" "lastLinks" "LClosExchange$Row;", Cond.methodLink RX1 26 yX4_init, Cond.instanceMethod yX4_init, Cond.code yX4_init cX4_init 2 none, Cond.methodLink RX4 3 objectInit, Cond.methodLink RX4 9 Lib.Math.max.name, Cond.static Lib.Math.max.name, Cond.initialized "java/lang/Math", Cond.code Lib.Math.max.name Lib.Math.max.code 2 (some .int)]
def wsX1_init_r2 : List Cond := [Cond.arrayClass .int, Cond.fieldLink RX4 15 "ClosExchange$Row" "cells" "[I", Cond.methodLink RX4 21 yJ7_fill_53178, Cond.static yJ7_fill_53178, Cond.initialized RJ7, Cond.code yJ7_fill_53178 cJ7_fill_53178 4 none]
def wsX1_init : List Cond := .code yX1_init cX1_init 1 none :: ((wsX1_init_r1 ++ wsX1_init_r2) ++ wsX10 ++ wsX40)
def wsX0_init_r1 : List Cond := [Cond.methodLink RX0 3 objectInit, Cond.instanceMethod objectInit, Cond.code objectInit ⟨#[0xb1]⟩ 1 none, Cond.classLink RX0 9 RX1, Cond.fieldLink RX0 11 "ClosExchange$History" "states" "[LClosExchange$Network;", Cond.instantiable RX1 16, Cond.initialized RX1, Cond.methodLink RX0 17 yX1_init, Cond.instanceMethod yX1_init, Cond.code yX1_init cX1_init 1 none, Cond.methodLink RX1 3 objectInit, Cond.fieldLink RX1 9 "ClosExchange$Network" "boards" "I", Cond.fieldLink RX1 15 "ClosExchange$Network" "lines" "I", Cond.fieldLink RX1 18 "ClosExchange$Network" "middles" "I", Cond.fieldLink RX1 21 "ClosExchange$Network" "service" "I", Cond.classLink RX1 24 RX4, Cond.instantiable RX4 1, Cond.initialized RX4, Cond.fieldLink RX1 29 "ClosExchange$Network" "numbers" "LClosExchange$Row;", Cond.fieldLink RX1 33 "ClosExchange$Network" "outlets" "LClosExchange$Row;", Cond.fieldLink RX1 36 "ClosExchange$Network" "vias" "LClosExchange$Row;", Cond.fieldLink RX1 39 "ClosExchange$Network" "inlets" "LClosExchange$Row;", Cond.fieldLink RX1 42 "ClosExchange$Network" "firstLinks" "LClosExchange$Row;", Cond.fieldLink RX1 45 "ClosExchange$Network" "lastLinks" "LClosExchange$Row;"]
def wsX0_init_r2 : List Cond := [Cond.methodLink RX1 26 yX4_init, Cond.instanceMethod yX4_init, Cond.code yX4_init cX4_init 2 none, Cond.methodLink RX4 3 objectInit, Cond.methodLink RX4 9 Lib.Math.max.name, Cond.static Lib.Math.max.name, Cond.initialized "java/lang/Math", Cond.code Lib.Math.max.name Lib.Math.max.code 2 (some .int), Cond.arrayClass .int, Cond.fieldLink RX4 15 "ClosExchange$Row" "cells" "[I", Cond.methodLink RX4 21 yJ7_fill_53178, Cond.static yJ7_fill_53178, Cond.initialized RJ7, Cond.code yJ7_fill_53178 cJ7_fill_53178 4 none]
def wsX0_init : List Cond := .code yX0_init cX0_init 2 none :: ((wsX0_init_r1 ++ wsX0_init_r2) ++ wsX00 ++ wsX10 ++ wsX40)
def wsX0_latestState : List Cond := .code yX0_latestState cX0_latestState 1 (some (.object "ClosExchange$Network")) :: ([.fieldLink RX0 18 "ClosExchange$History" "latest" "I", .fieldLink RX0 11 "ClosExchange$History" "states" "[LClosExchange$Network;"] ++ wsX00)
def wsX4_copyFrom : List Cond := .code yX4_copyFrom cX4_copyFrom 2 none :: ([.fieldLink RX4 15 "ClosExchange$Row" "cells" "[I", .methodLink RX4 27 Lib.Math.min.name, .static Lib.Math.min.name, .initialized "java/lang/Math", .code Lib.Math.min.name Lib.Math.min.code 2 (some .int), .methodLink RX4 30 arraycopyName, .native arraycopyName, .static arraycopyName, .initialized "java/lang/System"] ++ wsX40)
def wsX1_copyFrom_r1 : List Cond := [Cond.fieldLink RX1 9 "ClosExchange$Network" "boards" "I", Cond.fieldLink RX1 15 "ClosExchange$Network" "lines" "I", Cond.fieldLink RX1 18 "ClosExchange$Network" "middles" "I", Cond.fieldLink RX1 21 "ClosExchange$Network" "service" "I", Cond.fieldLink RX1 48 "ClosExchange$Network" "choiceRule" "I", Cond.fieldLink RX1 51 "ClosExchange$Network" "pairRule" "I", Cond.fieldLink RX1 54 "ClosExchange$Network" "connected" "I", Cond.fieldLink RX1 57 "ClosExchange$Network" "ended" "I", Cond.fieldLink RX1 60 "ClosExchange$Network" "dropped" "I", Cond.fieldLink RX1 63 "ClosExchange$Network" "moved" "I", Cond.fieldLink RX1 29 "ClosExchange$Network" "numbers" "LClosExchange$Row;", Cond.fieldLink RX1 33 "ClosExchange$Network" "outlets" "LClosExchange$Row;", Cond.fieldLink RX1 36 "ClosExchange$Network" "vias" "LClosExchange$Row;", Cond.fieldLink RX1 39 "ClosExchange$Network" "inlets" "LClosExchange$Row;", Cond.fieldLink RX1 42 "ClosExchange$Network" "firstLinks" "LClosExchange$Row;", Cond.fieldLink RX1 45 "ClosExchange$Network" "lastLinks" "LClosExchange$Row;", Cond.methodLink RX1 66 yX4_copyFrom, Cond.instanceMethod yX4_copyFrom, Cond.selects RX4 yX4_copyFrom yX4_copyFrom, Cond.initialized RX4, Cond.code yX4_copyFrom cX4_copyFrom 2 none, Cond.fieldLink RX4 15 "ClosExchange$Row" "cells" "[I", Cond.methodLink RX4 27 Lib.Math.min.name, Cond.static Lib.Math.min.name]
def wsX1_copyFrom_r2 : List Cond := [Cond.initialized "java/lang/Math", Cond.code Lib.Math.min.name Lib.Math.min.code 2 (some .int), Cond.methodLink RX4 30 arraycopyName, Cond.native arraycopyName, Cond.static arraycopyName, Cond.initialized "java/lang/System"]
def wsX1_copyFrom : List Cond := .code yX1_copyFrom cX1_copyFrom 2 none :: ((wsX1_copyFrom_r1 ++ wsX1_copyFrom_r2) ++ wsX10 ++ wsX40)
def wsX0_push_r1 : List Cond := [Cond.fieldLink RX0 18 "ClosExchange$History" "latest" "I", Cond.fieldLink RX0 30 "ClosExchange$History" "count" "I", Cond.methodLink RX0 33 Lib.Math.min.name, Cond.static Lib.Math.min.name, Cond.initialized "java/lang/Math", Cond.code Lib.Math.min.name Lib.Math.min.code 2 (some .int), Cond.methodLink RX0 22 yX0_latestState, Cond.instanceMethod yX0_latestState, Cond.selects RX0 yX0_latestState yX0_latestState, Cond.initialized RX0, Cond.code yX0_latestState cX0_latestState 1 (some (.object "ClosExchange$Network")), Cond.fieldLink RX0 11 "ClosExchange$History" "states" "[LClosExchange$Network;", Cond.methodLink RX0 26 yX1_copyFrom, Cond.instanceMethod yX1_copyFrom, Cond.selects RX1 yX1_copyFrom yX1_copyFrom, Cond.initialized RX1, Cond.code yX1_copyFrom cX1_copyFrom 2 none, Cond.fieldLink RX1 9 "ClosExchange$Network" "boards" "I", Cond.fieldLink RX1 15 "ClosExchange$Network" "lines" "I", Cond.fieldLink RX1 18 "ClosExchange$Network" "middles" "I", Cond.fieldLink RX1 21 "ClosExchange$Network" "service" "I", Cond.fieldLink RX1 48 "ClosExchange$Network" "choiceRule" "I", Cond.fieldLink RX1 51 "ClosExchange$Network" "pairRule" "I", Cond.fieldLink RX1 54 "ClosExchange$Network" "connected" "I"]
def wsX0_push_r2 : List Cond := [Cond.fieldLink RX1 57 "ClosExchange$Network" "ended" "I", Cond.fieldLink RX1 60 "ClosExchange$Network" "dropped" "I", Cond.fieldLink RX1 63 "ClosExchange$Network" "moved" "I", Cond.fieldLink RX1 29 "ClosExchange$Network" "numbers" "LClosExchange$Row;", Cond.fieldLink RX1 33 "ClosExchange$Network" "outlets" "LClosExchange$Row;", Cond.fieldLink RX1 36 "ClosExchange$Network" "vias" "LClosExchange$Row;", Cond.fieldLink RX1 39 "ClosExchange$Network" "inlets" "LClosExchange$Row;", Cond.fieldLink RX1 42 "ClosExchange$Network" "firstLinks" "LClosExchange$Row;", Cond.fieldLink RX1 45 "ClosExchange$Network" "lastLinks" "LClosExchange$Row;", Cond.methodLink RX1 66 yX4_copyFrom, Cond.instanceMethod yX4_copyFrom, Cond.selects RX4 yX4_copyFrom yX4_copyFrom, Cond.initialized RX4, Cond.code yX4_copyFrom cX4_copyFrom 2 none, Cond.fieldLink RX4 15 "ClosExchange$Row" "cells" "[I", Cond.methodLink RX4 27 Lib.Math.min.name, Cond.methodLink RX4 30 arraycopyName, Cond.native arraycopyName, Cond.static arraycopyName, Cond.initialized "java/lang/System"]
def wsX0_push : List Cond := .code yX0_push cX0_push 3 none :: ((wsX0_push_r1 ++ wsX0_push_r2) ++ wsX00 ++ wsX10 ++ wsX40)
def wsX0_takeBack_r1 : List Cond := [Cond.fieldLink RX0 30 "ClosExchange$History" "count" "I", Cond.fieldLink RX0 18 "ClosExchange$History" "latest" "I", Cond.methodLink RX0 22 yX0_latestState, Cond.instanceMethod yX0_latestState, Cond.selects RX0 yX0_latestState yX0_latestState, Cond.initialized RX0, Cond.code yX0_latestState cX0_latestState 1 (some (.object "ClosExchange$Network")), Cond.fieldLink RX0 11 "ClosExchange$History" "states" "[LClosExchange$Network;", Cond.methodLink RX0 26 yX1_copyFrom, Cond.instanceMethod yX1_copyFrom, Cond.selects RX1 yX1_copyFrom yX1_copyFrom, Cond.initialized RX1, Cond.code yX1_copyFrom cX1_copyFrom 2 none, Cond.fieldLink RX1 9 "ClosExchange$Network" "boards" "I", Cond.fieldLink RX1 15 "ClosExchange$Network" "lines" "I", Cond.fieldLink RX1 18 "ClosExchange$Network" "middles" "I", Cond.fieldLink RX1 21 "ClosExchange$Network" "service" "I", Cond.fieldLink RX1 48 "ClosExchange$Network" "choiceRule" "I", Cond.fieldLink RX1 51 "ClosExchange$Network" "pairRule" "I", Cond.fieldLink RX1 54 "ClosExchange$Network" "connected" "I", Cond.fieldLink RX1 57 "ClosExchange$Network" "ended" "I", Cond.fieldLink RX1 60 "ClosExchange$Network" "dropped" "I", Cond.fieldLink RX1 63 "ClosExchange$Network" "moved" "I", Cond.fieldLink RX1 29 "ClosExchange$Network" "numbers" "LClosExchange$Row;"]
def wsX0_takeBack_r2 : List Cond := [Cond.fieldLink RX1 33 "ClosExchange$Network" "outlets" "LClosExchange$Row;", Cond.fieldLink RX1 36 "ClosExchange$Network" "vias" "LClosExchange$Row;", Cond.fieldLink RX1 39 "ClosExchange$Network" "inlets" "LClosExchange$Row;", Cond.fieldLink RX1 42 "ClosExchange$Network" "firstLinks" "LClosExchange$Row;", Cond.fieldLink RX1 45 "ClosExchange$Network" "lastLinks" "LClosExchange$Row;", Cond.methodLink RX1 66 yX4_copyFrom, Cond.instanceMethod yX4_copyFrom, Cond.selects RX4 yX4_copyFrom yX4_copyFrom, Cond.initialized RX4, Cond.code yX4_copyFrom cX4_copyFrom 2 none, Cond.fieldLink RX4 15 "ClosExchange$Row" "cells" "[I", Cond.methodLink RX4 27 Lib.Math.min.name, Cond.static Lib.Math.min.name, Cond.initialized "java/lang/Math", Cond.code Lib.Math.min.name Lib.Math.min.code 2 (some .int), Cond.methodLink RX4 30 arraycopyName, Cond.native arraycopyName, Cond.static arraycopyName, Cond.initialized "java/lang/System"]
def wsX0_takeBack : List Cond := .code yX0_takeBack cX0_takeBack 3 (some .int) :: ((wsX0_takeBack_r1 ++ wsX0_takeBack_r2) ++ wsX00 ++ wsX10 ++ wsX40)
def wsX4_get : List Cond := .code yX4_get cX4_get 2 (some .int) :: ([.fieldLink RX4 15 "ClosExchange$Row" "cells" "[I"] ++ wsX40)
def wsX1_countCalls : List Cond := .code yX1_countCalls cX1_countCalls 3 (some .int) :: ([.fieldLink RX1 29 "ClosExchange$Network" "numbers" "LClosExchange$Row;", .methodLink RX1 77 yX4_get, .instanceMethod yX4_get, .selects RX4 yX4_get yX4_get, .initialized RX4, .code yX4_get cX4_get 2 (some .int), .fieldLink RX4 15 "ClosExchange$Row" "cells" "[I"] ++ wsX10 ++ wsX40)
def wsX4_empty : List Cond := .code yX4_empty cX4_empty 1 none :: ([.fieldLink RX4 15 "ClosExchange$Row" "cells" "[I", .methodLink RX4 21 yJ7_fill_53178, .static yJ7_fill_53178, .initialized RJ7, .code yJ7_fill_53178 cJ7_fill_53178 4 none] ++ wsX40)
def wsX1_rebuild_r1 : List Cond := [Cond.fieldLink RX1 57 "ClosExchange$Network" "ended" "I", Cond.fieldLink RX1 9 "ClosExchange$Network" "boards" "I", Cond.fieldLink RX1 15 "ClosExchange$Network" "lines" "I", Cond.fieldLink RX1 18 "ClosExchange$Network" "middles" "I", Cond.fieldLink RX1 21 "ClosExchange$Network" "service" "I", Cond.fieldLink RX1 29 "ClosExchange$Network" "numbers" "LClosExchange$Row;", Cond.fieldLink RX1 33 "ClosExchange$Network" "outlets" "LClosExchange$Row;", Cond.fieldLink RX1 36 "ClosExchange$Network" "vias" "LClosExchange$Row;", Cond.fieldLink RX1 39 "ClosExchange$Network" "inlets" "LClosExchange$Row;", Cond.fieldLink RX1 42 "ClosExchange$Network" "firstLinks" "LClosExchange$Row;", Cond.fieldLink RX1 45 "ClosExchange$Network" "lastLinks" "LClosExchange$Row;", Cond.methodLink RX1 70 yX1_countCalls, Cond.instanceMethod yX1_countCalls, Cond.selects RX1 yX1_countCalls yX1_countCalls, Cond.initialized RX1, Cond.code yX1_countCalls cX1_countCalls 3 (some .int), Cond.methodLink RX1 77 yX4_get, Cond.instanceMethod yX4_get, Cond.selects RX4 yX4_get yX4_get, Cond.initialized RX4, Cond.code yX4_get cX4_get 2 (some .int), Cond.fieldLink RX4 15 "ClosExchange$Row" "cells" "[I", Cond.methodLink RX1 74 yX4_empty, Cond.instanceMethod yX4_empty]
def wsX1_rebuild_r2 : List Cond := [Cond.selects RX4 yX4_empty yX4_empty, Cond.code yX4_empty cX4_empty 1 none, Cond.methodLink RX4 21 yJ7_fill_53178, Cond.static yJ7_fill_53178, Cond.initialized RJ7, Cond.code yJ7_fill_53178 cJ7_fill_53178 4 none]
def wsX1_rebuild : List Cond := .code yX1_rebuild cX1_rebuild 5 (some .int) :: ((wsX1_rebuild_r1 ++ wsX1_rebuild_r2) ++ wsX10 ++ wsX40)
def wsX1_isLine : List Cond := .code yX1_isLine cX1_isLine 2 (some .boolean) :: ([.fieldLink RX1 9 "ClosExchange$Network" "boards" "I", .fieldLink RX1 15 "ClosExchange$Network" "lines" "I"] ++ wsX10)
def wsX1_isBoard : List Cond := .code yX1_isBoard cX1_isBoard 2 (some .boolean) :: ([.fieldLink RX1 9 "ClosExchange$Network" "boards" "I"] ++ wsX10)
def wsX1_isMiddle : List Cond := .code yX1_isMiddle cX1_isMiddle 2 (some .boolean) :: ([.fieldLink RX1 18 "ClosExchange$Network" "middles" "I"] ++ wsX10)
def wsX1_isInletBusy : List Cond := .code yX1_isInletBusy cX1_isInletBusy 2 (some .boolean) :: ([.fieldLink RX1 29 "ClosExchange$Network" "numbers" "LClosExchange$Row;", .methodLink RX1 77 yX4_get, .instanceMethod yX4_get, .selects RX4 yX4_get yX4_get, .initialized RX4, .code yX4_get cX4_get 2 (some .int), .fieldLink RX4 15 "ClosExchange$Row" "cells" "[I"] ++ wsX10 ++ wsX40)
def wsX1_isOutletBusy : List Cond := .code yX1_isOutletBusy cX1_isOutletBusy 2 (some .boolean) :: ([.fieldLink RX1 39 "ClosExchange$Network" "inlets" "LClosExchange$Row;", .methodLink RX1 77 yX4_get, .instanceMethod yX4_get, .selects RX4 yX4_get yX4_get, .initialized RX4, .code yX4_get cX4_get 2 (some .int), .fieldLink RX4 15 "ClosExchange$Row" "cells" "[I"] ++ wsX10 ++ wsX40)
def wsX1_boardOf : List Cond := .code yX1_boardOf cX1_boardOf 2 (some .int) :: ([.fieldLink RX1 15 "ClosExchange$Network" "lines" "I"] ++ wsX10)
def wsX1_findInlet : List Cond := .code yX1_findInlet cX1_findInlet 3 (some .int) :: ([.fieldLink RX1 29 "ClosExchange$Network" "numbers" "LClosExchange$Row;", .methodLink RX1 77 yX4_get, .instanceMethod yX4_get, .selects RX4 yX4_get yX4_get, .initialized RX4, .code yX4_get cX4_get 2 (some .int), .fieldLink RX4 15 "ClosExchange$Row" "cells" "[I"] ++ wsX10 ++ wsX40)
def wsX5_link : List Cond := .code yX5_link cX5_link 2 (some .int) :: ([])
def wsX1_loadOf : List Cond := .code yX1_loadOf cX1_loadOf 4 (some .int) :: ([.fieldLink RX1 9 "ClosExchange$Network" "boards" "I", .fieldLink RX1 42 "ClosExchange$Network" "firstLinks" "LClosExchange$Row;", .static yX5_link, .initialized RX5, .code yX5_link cX5_link 2 (some .int), .methodLink RX1 77 yX4_get, .instanceMethod yX4_get, .selects RX4 yX4_get yX4_get, .initialized RX4, .code yX4_get cX4_get 2 (some .int), .fieldLink RX4 15 "ClosExchange$Row" "cells" "[I"] ++ wsX10 ++ wsX40)
def wsX1_freeOnLinks : List Cond := .code yX1_freeOnLinks cX1_freeOnLinks 5 (some .int) :: ([.fieldLink RX1 18 "ClosExchange$Network" "middles" "I", .fieldLink RX1 21 "ClosExchange$Network" "service" "I", .static yX5_link, .initialized RX5, .code yX5_link cX5_link 2 (some .int), .methodLink RX1 77 yX4_get, .instanceMethod yX4_get, .selects RX4 yX4_get yX4_get, .initialized RX4, .code yX4_get cX4_get 2 (some .int), .fieldLink RX4 15 "ClosExchange$Row" "cells" "[I"] ++ wsX10 ++ wsX40)
def wsX1_fullestBoard : List Cond := .code yX1_fullestBoard cX1_fullestBoard 6 (some .int) :: ([.fieldLink RX1 9 "ClosExchange$Network" "boards" "I", .fieldLink RX1 15 "ClosExchange$Network" "lines" "I", .methodLink RX1 92 Lib.Math.max.name, .static Lib.Math.max.name, .initialized "java/lang/Math", .code Lib.Math.max.name Lib.Math.max.code 2 (some .int), .methodLink RX1 85 yX1_isInletBusy, .instanceMethod yX1_isInletBusy, .selects RX1 yX1_isInletBusy yX1_isInletBusy, .initialized RX1, .code yX1_isInletBusy cX1_isInletBusy 2 (some .boolean), .fieldLink RX1 29 "ClosExchange$Network" "numbers" "LClosExchange$Row;", .methodLink RX1 77 yX4_get, .instanceMethod yX4_get, .selects RX4 yX4_get yX4_get, .initialized RX4, .code yX4_get cX4_get 2 (some .int), .fieldLink RX4 15 "ClosExchange$Row" "cells" "[I", .methodLink RX1 89 yX1_isOutletBusy, .instanceMethod yX1_isOutletBusy, .selects RX1 yX1_isOutletBusy yX1_isOutletBusy, .code yX1_isOutletBusy cX1_isOutletBusy 2 (some .boolean), .fieldLink RX1 39 "ClosExchange$Network" "inlets" "LClosExchange$Row;"] ++ wsX10 ++ wsX40)
def wsX4_set : List Cond := .code yX4_set cX4_set 3 none :: ([.fieldLink RX4 15 "ClosExchange$Row" "cells" "[I"] ++ wsX40)
def wsX1_addCall : List Cond := .code yX1_addCall cX1_addCall 3 none :: ([.fieldLink RX1 29 "ClosExchange$Network" "numbers" "LClosExchange$Row;", .fieldLink RX1 54 "ClosExchange$Network" "connected" "I", .fieldLink RX1 33 "ClosExchange$Network" "outlets" "LClosExchange$Row;", .fieldLink RX1 39 "ClosExchange$Network" "inlets" "LClosExchange$Row;", .methodLink RX1 97 yX4_set, .instanceMethod yX4_set, .selects RX4 yX4_set yX4_set, .initialized RX4, .code yX4_set cX4_set 3 none, .fieldLink RX4 15 "ClosExchange$Row" "cells" "[I"] ++ wsX10 ++ wsX40)
def wsX1_liftCall : List Cond := .code yX1_liftCall cX1_liftCall 3 none :: ([.fieldLink RX1 36 "ClosExchange$Network" "vias" "LClosExchange$Row;", .fieldLink RX1 42 "ClosExchange$Network" "firstLinks" "LClosExchange$Row;", .fieldLink RX1 45 "ClosExchange$Network" "lastLinks" "LClosExchange$Row;", .fieldLink RX1 33 "ClosExchange$Network" "outlets" "LClosExchange$Row;", .methodLink RX1 77 yX4_get, .instanceMethod yX4_get, .selects RX4 yX4_get yX4_get, .initialized RX4, .code yX4_get cX4_get 2 (some .int), .fieldLink RX4 15 "ClosExchange$Row" "cells" "[I", .methodLink RX1 104 yX1_boardOf, .instanceMethod yX1_boardOf, .selects RX1 yX1_boardOf yX1_boardOf, .initialized RX1, .code yX1_boardOf cX1_boardOf 2 (some .int), .fieldLink RX1 15 "ClosExchange$Network" "lines" "I", .static yX5_link, .initialized RX5, .code yX5_link cX5_link 2 (some .int), .methodLink RX1 97 yX4_set, .instanceMethod yX4_set, .selects RX4 yX4_set yX4_set, .code yX4_set cX4_set 3 none] ++ wsX10 ++ wsX40)
def wsX1_removeCall_r1 : List Cond := [Cond.fieldLink RX1 39 "ClosExchange$Network" "inlets" "LClosExchange$Row;", Cond.fieldLink RX1 33 "ClosExchange$Network" "outlets" "LClosExchange$Row;", Cond.fieldLink RX1 29 "ClosExchange$Network" "numbers" "LClosExchange$Row;", Cond.methodLink RX1 101 yX1_liftCall, Cond.instanceMethod yX1_liftCall, Cond.selects RX1 yX1_liftCall yX1_liftCall, Cond.initialized RX1, Cond.code yX1_liftCall cX1_liftCall 3 none, Cond.fieldLink RX1 36 "ClosExchange$Network" "vias" "LClosExchange$Row;", Cond.fieldLink RX1 42 "ClosExchange$Network" "firstLinks" "LClosExchange$Row;", Cond.fieldLink RX1 45 "ClosExchange$Network" "lastLinks" "LClosExchange$Row;", Cond.methodLink RX1 77 yX4_get, Cond.instanceMethod yX4_get, Cond.selects RX4 yX4_get yX4_get, Cond.initialized RX4, Cond.code yX4_get cX4_get 2 (some .int), Cond.fieldLink RX4 15 "ClosExchange$Row" "cells" "[I", Cond.methodLink RX1 104 yX1_boardOf, Cond.instanceMethod yX1_boardOf, Cond.selects RX1 yX1_boardOf yX1_boardOf, Cond.code yX1_boardOf cX1_boardOf 2 (some .int), Cond.fieldLink RX1 15 "ClosExchange$Network" "lines" "I", Cond.static yX5_link, Cond.initialized RX5]
def wsX1_removeCall_r2 : List Cond := [Cond.code yX5_link cX5_link 2 (some .int), Cond.methodLink RX1 97 yX4_set, Cond.instanceMethod yX4_set, Cond.selects RX4 yX4_set yX4_set, Cond.code yX4_set cX4_set 3 none]
def wsX1_removeCall : List Cond := .code yX1_removeCall cX1_removeCall 2 none :: ((wsX1_removeCall_r1 ++ wsX1_removeCall_r2) ++ wsX10 ++ wsX40)
def wsX1_carryCall : List Cond := .code yX1_carryCall cX1_carryCall 3 none :: ([.fieldLink RX1 36 "ClosExchange$Network" "vias" "LClosExchange$Row;", .fieldLink RX1 42 "ClosExchange$Network" "firstLinks" "LClosExchange$Row;", .fieldLink RX1 45 "ClosExchange$Network" "lastLinks" "LClosExchange$Row;", .fieldLink RX1 33 "ClosExchange$Network" "outlets" "LClosExchange$Row;", .methodLink RX1 97 yX4_set, .instanceMethod yX4_set, .selects RX4 yX4_set yX4_set, .initialized RX4, .code yX4_set cX4_set 3 none, .fieldLink RX4 15 "ClosExchange$Row" "cells" "[I", .methodLink RX1 104 yX1_boardOf, .instanceMethod yX1_boardOf, .selects RX1 yX1_boardOf yX1_boardOf, .initialized RX1, .code yX1_boardOf cX1_boardOf 2 (some .int), .fieldLink RX1 15 "ClosExchange$Network" "lines" "I", .static yX5_link, .initialized RX5, .code yX5_link cX5_link 2 (some .int), .methodLink RX1 77 yX4_get, .instanceMethod yX4_get, .selects RX4 yX4_get yX4_get, .code yX4_get cX4_get 2 (some .int)] ++ wsX10 ++ wsX40)
def wsX1_firstLifted : List Cond := .code yX1_firstLifted cX1_firstLifted 3 (some .int) :: ([.fieldLink RX1 36 "ClosExchange$Network" "vias" "LClosExchange$Row;", .fieldLink RX1 29 "ClosExchange$Network" "numbers" "LClosExchange$Row;", .methodLink RX1 85 yX1_isInletBusy, .instanceMethod yX1_isInletBusy, .selects RX1 yX1_isInletBusy yX1_isInletBusy, .initialized RX1, .code yX1_isInletBusy cX1_isInletBusy 2 (some .boolean), .methodLink RX1 77 yX4_get, .instanceMethod yX4_get, .selects RX4 yX4_get yX4_get, .initialized RX4, .code yX4_get cX4_get 2 (some .int), .fieldLink RX4 15 "ClosExchange$Row" "cells" "[I"] ++ wsX10 ++ wsX40)
def wsX2_init : List Cond := .code yX2_init cX2_init 1 none :: ([.methodLink RX2 3 objectInit, .instanceMethod objectInit, .code objectInit ⟨#[0xb1]⟩ 1 none, .classLink RX2 9 RX4, .instantiable RX4 1, .initialized RX4, .fieldLink RX2 14 "ClosExchange$OrderText" "signs" "LClosExchange$Row;", .methodLink RX2 11 yX4_init, .instanceMethod yX4_init, .code yX4_init cX4_init 2 none, .methodLink RX4 3 objectInit, .methodLink RX4 9 Lib.Math.max.name, .static Lib.Math.max.name, .initialized "java/lang/Math", .code Lib.Math.max.name Lib.Math.max.code 2 (some .int), .arrayClass .int, .fieldLink RX4 15 "ClosExchange$Row" "cells" "[I", .methodLink RX4 21 yJ7_fill_53178, .static yJ7_fill_53178, .initialized RJ7, .code yJ7_fill_53178 cJ7_fill_53178 4 none] ++ wsX40 ++ wsX20)
def wsX2_append : List Cond := .code yX2_append cX2_append 2 (some .int) :: ([.fieldLink RX2 20 "ClosExchange$OrderText" "length" "I", .fieldLink RX2 14 "ClosExchange$OrderText" "signs" "LClosExchange$Row;", .methodLink RX2 24 yX4_set, .instanceMethod yX4_set, .selects RX4 yX4_set yX4_set, .initialized RX4, .code yX4_set cX4_set 3 none, .fieldLink RX4 15 "ClosExchange$Row" "cells" "[I"] ++ wsX20 ++ wsX40)
def wsX2_rewind : List Cond := .code yX2_rewind cX2_rewind 1 none :: ([.fieldLink RX2 28 "ClosExchange$OrderText" "place" "I"] ++ wsX20)
def wsX2_sign : List Cond := .code yX2_sign cX2_sign 1 (some .int) :: ([.fieldLink RX2 28 "ClosExchange$OrderText" "place" "I", .fieldLink RX2 20 "ClosExchange$OrderText" "length" "I", .fieldLink RX2 14 "ClosExchange$OrderText" "signs" "LClosExchange$Row;", .methodLink RX2 59 yX4_get, .instanceMethod yX4_get, .selects RX4 yX4_get yX4_get, .initialized RX4, .code yX4_get cX4_get 2 (some .int), .fieldLink RX4 15 "ClosExchange$Row" "cells" "[I"] ++ wsX20 ++ wsX40)
def wsX2_readNumber : List Cond := .code yX2_readNumber cX2_readNumber 6 (some .int) :: ([.methodLink RX2 62 Lib.Math.max.name, .static Lib.Math.max.name, .initialized "java/lang/Math", .code Lib.Math.max.name Lib.Math.max.code 2 (some .int), .fieldLink RX2 28 "ClosExchange$OrderText" "place" "I", .methodLink RX2 42 yX2_sign, .instanceMethod yX2_sign, .selects RX2 yX2_sign yX2_sign, .initialized RX2, .code yX2_sign cX2_sign 1 (some .int), .fieldLink RX2 20 "ClosExchange$OrderText" "length" "I", .fieldLink RX2 14 "ClosExchange$OrderText" "signs" "LClosExchange$Row;", .methodLink RX2 59 yX4_get, .instanceMethod yX4_get, .selects RX4 yX4_get yX4_get, .initialized RX4, .code yX4_get cX4_get 2 (some .int), .fieldLink RX4 15 "ClosExchange$Row" "cells" "[I"] ++ wsX20 ++ wsX40)
def wsX2_skip : List Cond := .code yX2_skip cX2_skip 2 (some .boolean) :: ([.fieldLink RX2 28 "ClosExchange$OrderText" "place" "I", .methodLink RX2 42 yX2_sign, .instanceMethod yX2_sign, .selects RX2 yX2_sign yX2_sign, .initialized RX2, .code yX2_sign cX2_sign 1 (some .int), .fieldLink RX2 20 "ClosExchange$OrderText" "length" "I", .fieldLink RX2 14 "ClosExchange$OrderText" "signs" "LClosExchange$Row;", .methodLink RX2 59 yX4_get, .instanceMethod yX4_get, .selects RX4 yX4_get yX4_get, .initialized RX4, .code yX4_get cX4_get 2 (some .int), .fieldLink RX4 15 "ClosExchange$Row" "cells" "[I"] ++ wsX20 ++ wsX40)
def wsX2_readOrder_r1 : List Cond := [Cond.fieldLink RX2 46 "ClosExchange$OrderText" "kind" "I", Cond.fieldLink RX2 28 "ClosExchange$OrderText" "place" "I", Cond.fieldLink RX2 53 "ClosExchange$OrderText" "first" "I", Cond.fieldLink RX2 56 "ClosExchange$OrderText" "second" "I", Cond.methodLink RX2 42 yX2_sign, Cond.instanceMethod yX2_sign, Cond.selects RX2 yX2_sign yX2_sign, Cond.initialized RX2, Cond.code yX2_sign cX2_sign 1 (some .int), Cond.fieldLink RX2 20 "ClosExchange$OrderText" "length" "I", Cond.fieldLink RX2 14 "ClosExchange$OrderText" "signs" "LClosExchange$Row;", Cond.methodLink RX2 59 yX4_get, Cond.instanceMethod yX4_get, Cond.selects RX4 yX4_get yX4_get, Cond.initialized RX4, Cond.code yX4_get cX4_get 2 (some .int), Cond.fieldLink RX4 15 "ClosExchange$Row" "cells" "[I", Cond.methodLink RX2 49 yX2_readNumber, Cond.instanceMethod yX2_readNumber, Cond.selects RX2 yX2_readNumber yX2_readNumber, Cond.code yX2_readNumber cX2_readNumber 6 (some .int), Cond.methodLink RX2 62 Lib.Math.max.name, Cond.static Lib.Math.max.name, Cond.initialized "java/lang/Math"]
def wsX2_readOrder_r2 : List Cond := [Cond.code Lib.Math.max.name Lib.Math.max.code 2 (some .int), Cond.methodLink RX2 38 yX2_skip, Cond.instanceMethod yX2_skip, Cond.selects RX2 yX2_skip yX2_skip, Cond.code yX2_skip cX2_skip 2 (some .boolean)]
def wsX2_readOrder : List Cond := .code yX2_readOrder cX2_readOrder 1 (some .boolean) :: ((wsX2_readOrder_r1 ++ wsX2_readOrder_r2) ++ wsX20 ++ wsX40)
def wsX2_findFault_r1 : List Cond := [Cond.fieldLink RX2 28 "ClosExchange$OrderText" "place" "I", Cond.fieldLink RX2 20 "ClosExchange$OrderText" "length" "I", Cond.methodLink RX2 31 yX2_rewind, Cond.instanceMethod yX2_rewind, Cond.selects RX2 yX2_rewind yX2_rewind, Cond.initialized RX2, Cond.code yX2_rewind cX2_rewind 1 none, Cond.methodLink RX2 34 yX2_readOrder, Cond.instanceMethod yX2_readOrder, Cond.selects RX2 yX2_readOrder yX2_readOrder, Cond.code yX2_readOrder cX2_readOrder 1 (some .boolean), Cond.fieldLink RX2 46 "ClosExchange$OrderText" "kind" "I", Cond.fieldLink RX2 53 "ClosExchange$OrderText" "first" "I", Cond.fieldLink RX2 56 "ClosExchange$OrderText" "second" "I", Cond.methodLink RX2 42 yX2_sign, Cond.instanceMethod yX2_sign, Cond.selects RX2 yX2_sign yX2_sign, Cond.code yX2_sign cX2_sign 1 (some .int), Cond.fieldLink RX2 14 "ClosExchange$OrderText" "signs" "LClosExchange$Row;", Cond.methodLink RX2 59 yX4_get, Cond.instanceMethod yX4_get, Cond.selects RX4 yX4_get yX4_get, Cond.initialized RX4, Cond.code yX4_get cX4_get 2 (some .int)]
def wsX2_findFault_r2 : List Cond := [Cond.fieldLink RX4 15 "ClosExchange$Row" "cells" "[I", Cond.methodLink RX2 49 yX2_readNumber, Cond.instanceMethod yX2_readNumber, Cond.selects RX2 yX2_readNumber yX2_readNumber, Cond.code yX2_readNumber cX2_readNumber 6 (some .int), Cond.methodLink RX2 62 Lib.Math.max.name, Cond.static Lib.Math.max.name, Cond.initialized "java/lang/Math", Cond.code Lib.Math.max.name Lib.Math.max.code 2 (some .int), Cond.methodLink RX2 38 yX2_skip, Cond.instanceMethod yX2_skip, Cond.selects RX2 yX2_skip yX2_skip, Cond.code yX2_skip cX2_skip 2 (some .boolean)]
def wsX2_findFault : List Cond := .code yX2_findFault cX2_findFault 2 (some .int) :: ((wsX2_findFault_r1 ++ wsX2_findFault_r2) ++ wsX20 ++ wsX40)
def wsX3_init : List Cond := .code yX3_init cX3_init 1 none :: ([.methodLink RX3 3 objectInit, .instanceMethod objectInit, .code objectInit ⟨#[0xb1]⟩ 1 none, .classLink RX3 9 RX4, .instantiable RX4 1, .initialized RX4, .fieldLink RX3 14 "ClosExchange$Router" "chain" "LClosExchange$Row;", .fieldLink RX3 20 "ClosExchange$Router" "formerVias" "LClosExchange$Row;", .methodLink RX3 11 yX4_init, .instanceMethod yX4_init, .code yX4_init cX4_init 2 none, .methodLink RX4 3 objectInit, .methodLink RX4 9 Lib.Math.max.name, .static Lib.Math.max.name, .initialized "java/lang/Math", .code Lib.Math.max.name Lib.Math.max.code 2 (some .int), .arrayClass .int, .fieldLink RX4 15 "ClosExchange$Row" "cells" "[I", .methodLink RX4 21 yJ7_fill_53178, .static yJ7_fill_53178, .initialized RJ7, .code yJ7_fill_53178 cJ7_fill_53178 4 none] ++ wsX40 ++ wsX30)
def wsX5_hasBit : List Cond := .code yX5_hasBit cX5_hasBit 2 (some .boolean) :: ([])
def wsX3_choose : List Cond := .code yX3_choose cX3_choose 8 (some .int) :: ([.fieldLink RX3 146 "ClosExchange$Network" "choiceRule" "I", .static yX5_hasBit, .initialized RX5, .code yX5_hasBit cX5_hasBit 2 (some .boolean), .methodLink RX3 149 yX1_loadOf, .instanceMethod yX1_loadOf, .selects RX1 yX1_loadOf yX1_loadOf, .initialized RX1, .code yX1_loadOf cX1_loadOf 4 (some .int), .fieldLink RX1 9 "ClosExchange$Network" "boards" "I", .fieldLink RX1 42 "ClosExchange$Network" "firstLinks" "LClosExchange$Row;", .static yX5_link, .code yX5_link cX5_link 2 (some .int), .methodLink RX1 77 yX4_get, .instanceMethod yX4_get, .selects RX4 yX4_get yX4_get, .initialized RX4, .code yX4_get cX4_get 2 (some .int), .fieldLink RX4 15 "ClosExchange$Row" "cells" "[I"] ++ wsX10 ++ wsX40)
def wsX3_follow_r1 : List Cond := [Cond.fieldLink RX3 143 "ClosExchange$Router" "pairP" "I", Cond.fieldLink RX3 158 "ClosExchange$Router" "pairQ" "I", Cond.fieldLink RX3 119 "ClosExchange$Router" "chainLength" "I", Cond.fieldLink RX3 132 "ClosExchange$Network" "lastLinks" "LClosExchange$Row;", Cond.fieldLink RX3 125 "ClosExchange$Network" "firstLinks" "LClosExchange$Row;", Cond.fieldLink RX3 14 "ClosExchange$Router" "chain" "LClosExchange$Row;", Cond.fieldLink RX3 113 "ClosExchange$Network" "outlets" "LClosExchange$Row;", Cond.static yX5_link, Cond.initialized RX5, Cond.code yX5_link cX5_link 2 (some .int), Cond.methodLink RX3 47 yX4_get, Cond.instanceMethod yX4_get, Cond.selects RX4 yX4_get yX4_get, Cond.initialized RX4, Cond.code yX4_get cX4_get 2 (some .int), Cond.fieldLink RX4 15 "ClosExchange$Row" "cells" "[I", Cond.methodLink RX3 164 yX4_set, Cond.instanceMethod yX4_set, Cond.selects RX4 yX4_set yX4_set, Cond.code yX4_set cX4_set 3 none, Cond.methodLink RX3 122 yX1_boardOf, Cond.instanceMethod yX1_boardOf, Cond.selects RX1 yX1_boardOf yX1_boardOf, Cond.initialized RX1]
def wsX3_follow_r2 : List Cond := [Cond.code yX1_boardOf cX1_boardOf 2 (some .int), Cond.fieldLink RX1 15 "ClosExchange$Network" "lines" "I"]
def wsX3_follow : List Cond := .code yX3_follow cX3_follow 9 none :: ((wsX3_follow_r1 ++ wsX3_follow_r2) ++ wsX30 ++ wsX10 ++ wsX40)
def wsX3_findPair_r1 : List Cond := [Cond.fieldLink RX3 155 "ClosExchange$Network" "pairRule" "I", Cond.fieldLink RX3 119 "ClosExchange$Router" "chainLength" "I", Cond.static yX5_hasBit, Cond.initialized RX5, Cond.code yX5_hasBit cX5_hasBit 2 (some .boolean), Cond.methodLink RX3 152 yX3_follow, Cond.instanceMethod yX3_follow, Cond.selects RX3 yX3_follow yX3_follow, Cond.initialized RX3, Cond.code yX3_follow cX3_follow 9 none, Cond.fieldLink RX3 143 "ClosExchange$Router" "pairP" "I", Cond.fieldLink RX3 158 "ClosExchange$Router" "pairQ" "I", Cond.fieldLink RX3 132 "ClosExchange$Network" "lastLinks" "LClosExchange$Row;", Cond.fieldLink RX3 125 "ClosExchange$Network" "firstLinks" "LClosExchange$Row;", Cond.fieldLink RX3 14 "ClosExchange$Router" "chain" "LClosExchange$Row;", Cond.fieldLink RX3 113 "ClosExchange$Network" "outlets" "LClosExchange$Row;", Cond.static yX5_link, Cond.code yX5_link cX5_link 2 (some .int), Cond.methodLink RX3 47 yX4_get, Cond.instanceMethod yX4_get, Cond.selects RX4 yX4_get yX4_get, Cond.initialized RX4, Cond.code yX4_get cX4_get 2 (some .int), Cond.fieldLink RX4 15 "ClosExchange$Row" "cells" "[I"]
def wsX3_findPair_r2 : List Cond := [Cond.methodLink RX3 164 yX4_set, Cond.instanceMethod yX4_set, Cond.selects RX4 yX4_set yX4_set, Cond.code yX4_set cX4_set 3 none, Cond.methodLink RX3 122 yX1_boardOf, Cond.instanceMethod yX1_boardOf, Cond.selects RX1 yX1_boardOf yX1_boardOf, Cond.initialized RX1, Cond.code yX1_boardOf cX1_boardOf 2 (some .int), Cond.fieldLink RX1 15 "ClosExchange$Network" "lines" "I"]
def wsX3_findPair : List Cond := .code yX3_findPair cX3_findPair 11 none :: ((wsX3_findPair_r1 ++ wsX3_findPair_r2) ++ wsX10 ++ wsX30 ++ wsX40)
def wsX3_findWay_r1 : List Cond := [Cond.fieldLink RX3 119 "ClosExchange$Router" "chainLength" "I", Cond.fieldLink RX3 125 "ClosExchange$Network" "firstLinks" "LClosExchange$Row;", Cond.fieldLink RX3 132 "ClosExchange$Network" "lastLinks" "LClosExchange$Row;", Cond.fieldLink RX3 143 "ClosExchange$Router" "pairP" "I", Cond.methodLink RX3 122 yX1_boardOf, Cond.instanceMethod yX1_boardOf, Cond.selects RX1 yX1_boardOf yX1_boardOf, Cond.initialized RX1, Cond.code yX1_boardOf cX1_boardOf 2 (some .int), Cond.fieldLink RX1 15 "ClosExchange$Network" "lines" "I", Cond.methodLink RX3 128 yX1_freeOnLinks, Cond.instanceMethod yX1_freeOnLinks, Cond.selects RX1 yX1_freeOnLinks yX1_freeOnLinks, Cond.code yX1_freeOnLinks cX1_freeOnLinks 5 (some .int), Cond.fieldLink RX1 18 "ClosExchange$Network" "middles" "I", Cond.fieldLink RX1 21 "ClosExchange$Network" "service" "I", Cond.static yX5_link, Cond.initialized RX5, Cond.code yX5_link cX5_link 2 (some .int), Cond.methodLink RX1 77 yX4_get, Cond.instanceMethod yX4_get, Cond.selects RX4 yX4_get yX4_get, Cond.initialized RX4, Cond.code yX4_get cX4_get 2 (some .int)]
def wsX3_findWay_r2 : List Cond := [Cond.fieldLink RX4 15 "ClosExchange$Row" "cells" "[I", Cond.methodLink RX3 135 yX3_choose, Cond.instanceMethod yX3_choose, Cond.selects RX3 yX3_choose yX3_choose, Cond.initialized RX3, Cond.code yX3_choose cX3_choose 8 (some .int), Cond.fieldLink RX3 146 "ClosExchange$Network" "choiceRule" "I", Cond.static yX5_hasBit, Cond.code yX5_hasBit cX5_hasBit 2 (some .boolean), Cond.methodLink RX3 149 yX1_loadOf, Cond.instanceMethod yX1_loadOf, Cond.selects RX1 yX1_loadOf yX1_loadOf, Cond.code yX1_loadOf cX1_loadOf 4 (some .int), Cond.fieldLink RX1 9 "ClosExchange$Network" "boards" "I", Cond.fieldLink RX1 42 "ClosExchange$Network" "firstLinks" "LClosExchange$Row;", Cond.methodLink RX3 139 yX3_findPair, Cond.instanceMethod yX3_findPair, Cond.selects RX3 yX3_findPair yX3_findPair, Cond.code yX3_findPair cX3_findPair 11 none, Cond.fieldLink RX3 155 "ClosExchange$Network" "pairRule" "I", Cond.methodLink RX3 152 yX3_follow, Cond.instanceMethod yX3_follow, Cond.selects RX3 yX3_follow yX3_follow, Cond.code yX3_follow cX3_follow 9 none]
def wsX3_findWay_r3 : List Cond := [Cond.fieldLink RX3 158 "ClosExchange$Router" "pairQ" "I", Cond.fieldLink RX3 14 "ClosExchange$Router" "chain" "LClosExchange$Row;", Cond.fieldLink RX3 113 "ClosExchange$Network" "outlets" "LClosExchange$Row;", Cond.methodLink RX3 47 yX4_get, Cond.methodLink RX3 164 yX4_set, Cond.instanceMethod yX4_set, Cond.selects RX4 yX4_set yX4_set, Cond.code yX4_set cX4_set 3 none]
def wsX3_findWay : List Cond := .code yX3_findWay cX3_findWay 7 (some .int) :: ((wsX3_findWay_r1 ++ (wsX3_findWay_r2 ++ wsX3_findWay_r3)) ++ wsX30 ++ wsX10 ++ wsX40)
def wsX3_tryCall_r1 : List Cond := [Cond.methodLink RX3 37 yX1_isLine, Cond.instanceMethod yX1_isLine, Cond.selects RX1 yX1_isLine yX1_isLine, Cond.initialized RX1, Cond.code yX1_isLine cX1_isLine 2 (some .boolean), Cond.fieldLink RX1 9 "ClosExchange$Network" "boards" "I", Cond.fieldLink RX1 15 "ClosExchange$Network" "lines" "I", Cond.methodLink RX3 41 yX1_isInletBusy, Cond.instanceMethod yX1_isInletBusy, Cond.selects RX1 yX1_isInletBusy yX1_isInletBusy, Cond.code yX1_isInletBusy cX1_isInletBusy 2 (some .boolean), Cond.fieldLink RX1 29 "ClosExchange$Network" "numbers" "LClosExchange$Row;", Cond.methodLink RX1 77 yX4_get, Cond.instanceMethod yX4_get, Cond.selects RX4 yX4_get yX4_get, Cond.initialized RX4, Cond.code yX4_get cX4_get 2 (some .int), Cond.fieldLink RX4 15 "ClosExchange$Row" "cells" "[I", Cond.methodLink RX3 104 yX1_isOutletBusy, Cond.instanceMethod yX1_isOutletBusy, Cond.selects RX1 yX1_isOutletBusy yX1_isOutletBusy, Cond.code yX1_isOutletBusy cX1_isOutletBusy 2 (some .boolean), Cond.fieldLink RX1 39 "ClosExchange$Network" "inlets" "LClosExchange$Row;", Cond.methodLink RX3 107 yX3_findWay]
def wsX3_tryCall_r2 : List Cond := [Cond.instanceMethod yX3_findWay, Cond.selects RX3 yX3_findWay yX3_findWay, Cond.initialized RX3, Cond.code yX3_findWay cX3_findWay 7 (some .int), Cond.fieldLink RX3 119 "ClosExchange$Router" "chainLength" "I", Cond.fieldLink RX3 125 "ClosExchange$Network" "firstLinks" "LClosExchange$Row;", Cond.fieldLink RX3 132 "ClosExchange$Network" "lastLinks" "LClosExchange$Row;", Cond.fieldLink RX3 143 "ClosExchange$Router" "pairP" "I", Cond.methodLink RX3 122 yX1_boardOf, Cond.instanceMethod yX1_boardOf, Cond.selects RX1 yX1_boardOf yX1_boardOf, Cond.code yX1_boardOf cX1_boardOf 2 (some .int), Cond.methodLink RX3 128 yX1_freeOnLinks, Cond.instanceMethod yX1_freeOnLinks, Cond.selects RX1 yX1_freeOnLinks yX1_freeOnLinks, Cond.code yX1_freeOnLinks cX1_freeOnLinks 5 (some .int), Cond.fieldLink RX1 18 "ClosExchange$Network" "middles" "I", Cond.fieldLink RX1 21 "ClosExchange$Network" "service" "I", Cond.static yX5_link, Cond.initialized RX5, Cond.code yX5_link cX5_link 2 (some .int), Cond.methodLink RX3 135 yX3_choose, Cond.instanceMethod yX3_choose, Cond.selects RX3 yX3_choose yX3_choose]
def wsX3_tryCall_r3 : List Cond := [Cond.code yX3_choose cX3_choose 8 (some .int), Cond.fieldLink RX3 146 "ClosExchange$Network" "choiceRule" "I", Cond.static yX5_hasBit, Cond.code yX5_hasBit cX5_hasBit 2 (some .boolean), Cond.methodLink RX3 149 yX1_loadOf, Cond.instanceMethod yX1_loadOf, Cond.selects RX1 yX1_loadOf yX1_loadOf, Cond.code yX1_loadOf cX1_loadOf 4 (some .int), Cond.fieldLink RX1 42 "ClosExchange$Network" "firstLinks" "LClosExchange$Row;", Cond.methodLink RX3 139 yX3_findPair, Cond.instanceMethod yX3_findPair, Cond.selects RX3 yX3_findPair yX3_findPair, Cond.code yX3_findPair cX3_findPair 11 none, Cond.fieldLink RX3 155 "ClosExchange$Network" "pairRule" "I", Cond.methodLink RX3 152 yX3_follow, Cond.instanceMethod yX3_follow, Cond.selects RX3 yX3_follow yX3_follow, Cond.code yX3_follow cX3_follow 9 none, Cond.fieldLink RX3 158 "ClosExchange$Router" "pairQ" "I", Cond.fieldLink RX3 14 "ClosExchange$Router" "chain" "LClosExchange$Row;", Cond.fieldLink RX3 113 "ClosExchange$Network" "outlets" "LClosExchange$Row;", Cond.methodLink RX3 47 yX4_get, Cond.methodLink RX3 164 yX4_set, Cond.instanceMethod yX4_set]
def wsX3_tryCall_r4 : List Cond := [Cond.selects RX4 yX4_set yX4_set, Cond.code yX4_set cX4_set 3 none]
def wsX3_tryCall : List Cond := .code yX3_tryCall cX3_tryCall 4 (some .int) :: ((wsX3_tryCall_r1 ++ (wsX3_tryCall_r2 ++ (wsX3_tryCall_r3 ++ wsX3_tryCall_r4))) ++ wsX10 ++ wsX40 ++ wsX30)
def wsX3_settle_r1 : List Cond := [Cond.fieldLink RX3 119 "ClosExchange$Router" "chainLength" "I", Cond.fieldLink RX3 14 "ClosExchange$Router" "chain" "LClosExchange$Row;", Cond.fieldLink RX3 158 "ClosExchange$Router" "pairQ" "I", Cond.fieldLink RX3 143 "ClosExchange$Router" "pairP" "I", Cond.fieldLink RX3 87 "ClosExchange$Network" "moved" "I", Cond.methodLink RX3 47 yX4_get, Cond.instanceMethod yX4_get, Cond.selects RX4 yX4_get yX4_get, Cond.initialized RX4, Cond.code yX4_get cX4_get 2 (some .int), Cond.fieldLink RX4 15 "ClosExchange$Row" "cells" "[I", Cond.methodLink RX3 71 yX1_liftCall, Cond.instanceMethod yX1_liftCall, Cond.selects RX1 yX1_liftCall yX1_liftCall, Cond.initialized RX1, Cond.code yX1_liftCall cX1_liftCall 3 none, Cond.fieldLink RX1 36 "ClosExchange$Network" "vias" "LClosExchange$Row;", Cond.fieldLink RX1 42 "ClosExchange$Network" "firstLinks" "LClosExchange$Row;", Cond.fieldLink RX1 45 "ClosExchange$Network" "lastLinks" "LClosExchange$Row;", Cond.fieldLink RX1 33 "ClosExchange$Network" "outlets" "LClosExchange$Row;", Cond.methodLink RX1 77 yX4_get, Cond.methodLink RX1 104 yX1_boardOf, Cond.instanceMethod yX1_boardOf, Cond.selects RX1 yX1_boardOf yX1_boardOf]
def wsX3_settle_r2 : List Cond := [Cond.code yX1_boardOf cX1_boardOf 2 (some .int), Cond.fieldLink RX1 15 "ClosExchange$Network" "lines" "I", Cond.static yX5_link, Cond.initialized RX5, Cond.code yX5_link cX5_link 2 (some .int), Cond.methodLink RX1 97 yX4_set, Cond.instanceMethod yX4_set, Cond.selects RX4 yX4_set yX4_set, Cond.code yX4_set cX4_set 3 none, Cond.methodLink RX3 167 yX1_carryCall, Cond.instanceMethod yX1_carryCall, Cond.selects RX1 yX1_carryCall yX1_carryCall, Cond.code yX1_carryCall cX1_carryCall 3 none]
def wsX3_settle : List Cond := .code yX3_settle cX3_settle 5 none :: ((wsX3_settle_r1 ++ wsX3_settle_r2) ++ wsX30 ++ wsX10 ++ wsX40)
def wsX3_join_r1 : List Cond := [Cond.methodLink RX3 23 yX3_tryCall, Cond.instanceMethod yX3_tryCall, Cond.selects RX3 yX3_tryCall yX3_tryCall, Cond.initialized RX3, Cond.code yX3_tryCall cX3_tryCall 4 (some .int), Cond.methodLink RX3 37 yX1_isLine, Cond.instanceMethod yX1_isLine, Cond.selects RX1 yX1_isLine yX1_isLine, Cond.initialized RX1, Cond.code yX1_isLine cX1_isLine 2 (some .boolean), Cond.fieldLink RX1 9 "ClosExchange$Network" "boards" "I", Cond.fieldLink RX1 15 "ClosExchange$Network" "lines" "I", Cond.methodLink RX3 41 yX1_isInletBusy, Cond.instanceMethod yX1_isInletBusy, Cond.selects RX1 yX1_isInletBusy yX1_isInletBusy, Cond.code yX1_isInletBusy cX1_isInletBusy 2 (some .boolean), Cond.fieldLink RX1 29 "ClosExchange$Network" "numbers" "LClosExchange$Row;", Cond.methodLink RX1 77 yX4_get, Cond.instanceMethod yX4_get, Cond.selects RX4 yX4_get yX4_get, Cond.initialized RX4, Cond.code yX4_get cX4_get 2 (some .int), Cond.fieldLink RX4 15 "ClosExchange$Row" "cells" "[I", Cond.methodLink RX3 104 yX1_isOutletBusy]
def wsX3_join_r2 : List Cond := [Cond.instanceMethod yX1_isOutletBusy, Cond.selects RX1 yX1_isOutletBusy yX1_isOutletBusy, Cond.code yX1_isOutletBusy cX1_isOutletBusy 2 (some .boolean), Cond.fieldLink RX1 39 "ClosExchange$Network" "inlets" "LClosExchange$Row;", Cond.methodLink RX3 107 yX3_findWay, Cond.instanceMethod yX3_findWay, Cond.selects RX3 yX3_findWay yX3_findWay, Cond.code yX3_findWay cX3_findWay 7 (some .int), Cond.fieldLink RX3 119 "ClosExchange$Router" "chainLength" "I", Cond.fieldLink RX3 125 "ClosExchange$Network" "firstLinks" "LClosExchange$Row;", Cond.fieldLink RX3 132 "ClosExchange$Network" "lastLinks" "LClosExchange$Row;", Cond.fieldLink RX3 143 "ClosExchange$Router" "pairP" "I", Cond.methodLink RX3 122 yX1_boardOf, Cond.instanceMethod yX1_boardOf, Cond.selects RX1 yX1_boardOf yX1_boardOf, Cond.code yX1_boardOf cX1_boardOf 2 (some .int), Cond.methodLink RX3 128 yX1_freeOnLinks, Cond.instanceMethod yX1_freeOnLinks, Cond.selects RX1 yX1_freeOnLinks yX1_freeOnLinks, Cond.code yX1_freeOnLinks cX1_freeOnLinks 5 (some .int), Cond.fieldLink RX1 18 "ClosExchange$Network" "middles" "I", Cond.fieldLink RX1 21 "ClosExchange$Network" "service" "I", Cond.static yX5_link, Cond.initialized RX5]
def wsX3_join_r3 : List Cond := [Cond.code yX5_link cX5_link 2 (some .int), Cond.methodLink RX3 135 yX3_choose, Cond.instanceMethod yX3_choose, Cond.selects RX3 yX3_choose yX3_choose, Cond.code yX3_choose cX3_choose 8 (some .int), Cond.fieldLink RX3 146 "ClosExchange$Network" "choiceRule" "I", Cond.static yX5_hasBit, Cond.code yX5_hasBit cX5_hasBit 2 (some .boolean), Cond.methodLink RX3 149 yX1_loadOf, Cond.instanceMethod yX1_loadOf, Cond.selects RX1 yX1_loadOf yX1_loadOf, Cond.code yX1_loadOf cX1_loadOf 4 (some .int), Cond.fieldLink RX1 42 "ClosExchange$Network" "firstLinks" "LClosExchange$Row;", Cond.methodLink RX3 139 yX3_findPair, Cond.instanceMethod yX3_findPair, Cond.selects RX3 yX3_findPair yX3_findPair, Cond.code yX3_findPair cX3_findPair 11 none, Cond.fieldLink RX3 155 "ClosExchange$Network" "pairRule" "I", Cond.methodLink RX3 152 yX3_follow, Cond.instanceMethod yX3_follow, Cond.selects RX3 yX3_follow yX3_follow, Cond.code yX3_follow cX3_follow 9 none, Cond.fieldLink RX3 158 "ClosExchange$Router" "pairQ" "I", Cond.fieldLink RX3 14 "ClosExchange$Router" "chain" "LClosExchange$Row;"]
def wsX3_join_r4 : List Cond := [Cond.fieldLink RX3 113 "ClosExchange$Network" "outlets" "LClosExchange$Row;", Cond.methodLink RX3 47 yX4_get, Cond.methodLink RX3 164 yX4_set, Cond.instanceMethod yX4_set, Cond.selects RX4 yX4_set yX4_set, Cond.code yX4_set cX4_set 3 none, Cond.methodLink RX3 27 yX1_addCall, Cond.instanceMethod yX1_addCall, Cond.selects RX1 yX1_addCall yX1_addCall, Cond.code yX1_addCall cX1_addCall 3 none, Cond.fieldLink RX1 54 "ClosExchange$Network" "connected" "I", Cond.fieldLink RX1 33 "ClosExchange$Network" "outlets" "LClosExchange$Row;", Cond.methodLink RX1 97 yX4_set, Cond.methodLink RX3 33 yX3_settle, Cond.instanceMethod yX3_settle, Cond.selects RX3 yX3_settle yX3_settle, Cond.code yX3_settle cX3_settle 5 none, Cond.fieldLink RX3 87 "ClosExchange$Network" "moved" "I", Cond.methodLink RX3 71 yX1_liftCall, Cond.instanceMethod yX1_liftCall, Cond.selects RX1 yX1_liftCall yX1_liftCall, Cond.code yX1_liftCall cX1_liftCall 3 none, Cond.fieldLink RX1 36 "ClosExchange$Network" "vias" "LClosExchange$Row;", Cond.fieldLink RX1 45 "ClosExchange$Network" "lastLinks" "LClosExchange$Row;"]
def wsX3_join_r5 : List Cond := [Cond.methodLink RX1 104 yX1_boardOf, Cond.methodLink RX3 167 yX1_carryCall, Cond.instanceMethod yX1_carryCall, Cond.selects RX1 yX1_carryCall yX1_carryCall, Cond.code yX1_carryCall cX1_carryCall 3 none]
def wsX3_join : List Cond := .code yX3_join cX3_join 5 (some .int) :: ((wsX3_join_r1 ++ (wsX3_join_r2 ++ (wsX3_join_r3 ++ (wsX3_join_r4 ++ wsX3_join_r5)))) ++ wsX10 ++ wsX40 ++ wsX30)
def wsX3_part_r1 : List Cond := [Cond.fieldLink RX3 44 "ClosExchange$Network" "numbers" "LClosExchange$Row;", Cond.fieldLink RX3 54 "ClosExchange$Network" "ended" "I", Cond.methodLink RX3 37 yX1_isLine, Cond.instanceMethod yX1_isLine, Cond.selects RX1 yX1_isLine yX1_isLine, Cond.initialized RX1, Cond.code yX1_isLine cX1_isLine 2 (some .boolean), Cond.fieldLink RX1 9 "ClosExchange$Network" "boards" "I", Cond.fieldLink RX1 15 "ClosExchange$Network" "lines" "I", Cond.methodLink RX3 41 yX1_isInletBusy, Cond.instanceMethod yX1_isInletBusy, Cond.selects RX1 yX1_isInletBusy yX1_isInletBusy, Cond.code yX1_isInletBusy cX1_isInletBusy 2 (some .boolean), Cond.fieldLink RX1 29 "ClosExchange$Network" "numbers" "LClosExchange$Row;", Cond.methodLink RX1 77 yX4_get, Cond.instanceMethod yX4_get, Cond.selects RX4 yX4_get yX4_get, Cond.initialized RX4, Cond.code yX4_get cX4_get 2 (some .int), Cond.fieldLink RX4 15 "ClosExchange$Row" "cells" "[I", Cond.methodLink RX3 47 yX4_get, Cond.methodLink RX3 51 yX1_removeCall, Cond.instanceMethod yX1_removeCall, Cond.selects RX1 yX1_removeCall yX1_removeCall]
def wsX3_part_r2 : List Cond := [Cond.code yX1_removeCall cX1_removeCall 2 none, Cond.fieldLink RX1 39 "ClosExchange$Network" "inlets" "LClosExchange$Row;", Cond.fieldLink RX1 33 "ClosExchange$Network" "outlets" "LClosExchange$Row;", Cond.methodLink RX1 101 yX1_liftCall, Cond.instanceMethod yX1_liftCall, Cond.selects RX1 yX1_liftCall yX1_liftCall, Cond.code yX1_liftCall cX1_liftCall 3 none, Cond.fieldLink RX1 36 "ClosExchange$Network" "vias" "LClosExchange$Row;", Cond.fieldLink RX1 42 "ClosExchange$Network" "firstLinks" "LClosExchange$Row;", Cond.fieldLink RX1 45 "ClosExchange$Network" "lastLinks" "LClosExchange$Row;", Cond.methodLink RX1 104 yX1_boardOf, Cond.instanceMethod yX1_boardOf, Cond.selects RX1 yX1_boardOf yX1_boardOf, Cond.code yX1_boardOf cX1_boardOf 2 (some .int), Cond.static yX5_link, Cond.initialized RX5, Cond.code yX5_link cX5_link 2 (some .int), Cond.methodLink RX1 97 yX4_set, Cond.instanceMethod yX4_set, Cond.selects RX4 yX4_set yX4_set, Cond.code yX4_set cX4_set 3 none]
def wsX3_part : List Cond := .code yX3_part cX3_part 4 (some .int) :: ((wsX3_part_r1 ++ wsX3_part_r2) ++ wsX10 ++ wsX40)
def wsX3_reroute_r1 : List Cond := [Cond.fieldLink RX3 113 "ClosExchange$Network" "outlets" "LClosExchange$Row;", Cond.fieldLink RX3 87 "ClosExchange$Network" "moved" "I", Cond.fieldLink RX3 116 "ClosExchange$Network" "dropped" "I", Cond.methodLink RX3 110 yX1_firstLifted, Cond.instanceMethod yX1_firstLifted, Cond.selects RX1 yX1_firstLifted yX1_firstLifted, Cond.initialized RX1, Cond.code yX1_firstLifted cX1_firstLifted 3 (some .int), Cond.fieldLink RX1 36 "ClosExchange$Network" "vias" "LClosExchange$Row;", Cond.fieldLink RX1 29 "ClosExchange$Network" "numbers" "LClosExchange$Row;", Cond.methodLink RX1 85 yX1_isInletBusy, Cond.instanceMethod yX1_isInletBusy, Cond.selects RX1 yX1_isInletBusy yX1_isInletBusy, Cond.code yX1_isInletBusy cX1_isInletBusy 2 (some .boolean), Cond.methodLink RX1 77 yX4_get, Cond.instanceMethod yX4_get, Cond.selects RX4 yX4_get yX4_get, Cond.initialized RX4, Cond.code yX4_get cX4_get 2 (some .int), Cond.fieldLink RX4 15 "ClosExchange$Row" "cells" "[I", Cond.methodLink RX3 47 yX4_get, Cond.methodLink RX3 107 yX3_findWay, Cond.instanceMethod yX3_findWay, Cond.selects RX3 yX3_findWay yX3_findWay]
def wsX3_reroute_r2 : List Cond := [Cond.initialized RX3, Cond.code yX3_findWay cX3_findWay 7 (some .int), Cond.fieldLink RX3 119 "ClosExchange$Router" "chainLength" "I", Cond.fieldLink RX3 125 "ClosExchange$Network" "firstLinks" "LClosExchange$Row;", Cond.fieldLink RX3 132 "ClosExchange$Network" "lastLinks" "LClosExchange$Row;", Cond.fieldLink RX3 143 "ClosExchange$Router" "pairP" "I", Cond.methodLink RX3 122 yX1_boardOf, Cond.instanceMethod yX1_boardOf, Cond.selects RX1 yX1_boardOf yX1_boardOf, Cond.code yX1_boardOf cX1_boardOf 2 (some .int), Cond.fieldLink RX1 15 "ClosExchange$Network" "lines" "I", Cond.methodLink RX3 128 yX1_freeOnLinks, Cond.instanceMethod yX1_freeOnLinks, Cond.selects RX1 yX1_freeOnLinks yX1_freeOnLinks, Cond.code yX1_freeOnLinks cX1_freeOnLinks 5 (some .int), Cond.fieldLink RX1 18 "ClosExchange$Network" "middles" "I", Cond.fieldLink RX1 21 "ClosExchange$Network" "service" "I", Cond.static yX5_link, Cond.initialized RX5, Cond.code yX5_link cX5_link 2 (some .int), Cond.methodLink RX3 135 yX3_choose, Cond.instanceMethod yX3_choose, Cond.selects RX3 yX3_choose yX3_choose, Cond.code yX3_choose cX3_choose 8 (some .int)]
def wsX3_reroute_r3 : List Cond := [Cond.fieldLink RX3 146 "ClosExchange$Network" "choiceRule" "I", Cond.static yX5_hasBit, Cond.code yX5_hasBit cX5_hasBit 2 (some .boolean), Cond.methodLink RX3 149 yX1_loadOf, Cond.instanceMethod yX1_loadOf, Cond.selects RX1 yX1_loadOf yX1_loadOf, Cond.code yX1_loadOf cX1_loadOf 4 (some .int), Cond.fieldLink RX1 9 "ClosExchange$Network" "boards" "I", Cond.fieldLink RX1 42 "ClosExchange$Network" "firstLinks" "LClosExchange$Row;", Cond.methodLink RX3 139 yX3_findPair, Cond.instanceMethod yX3_findPair, Cond.selects RX3 yX3_findPair yX3_findPair, Cond.code yX3_findPair cX3_findPair 11 none, Cond.fieldLink RX3 155 "ClosExchange$Network" "pairRule" "I", Cond.methodLink RX3 152 yX3_follow, Cond.instanceMethod yX3_follow, Cond.selects RX3 yX3_follow yX3_follow, Cond.code yX3_follow cX3_follow 9 none, Cond.fieldLink RX3 158 "ClosExchange$Router" "pairQ" "I", Cond.fieldLink RX3 14 "ClosExchange$Router" "chain" "LClosExchange$Row;", Cond.methodLink RX3 164 yX4_set, Cond.instanceMethod yX4_set, Cond.selects RX4 yX4_set yX4_set, Cond.code yX4_set cX4_set 3 none]
def wsX3_reroute_r4 : List Cond := [Cond.methodLink RX3 51 yX1_removeCall, Cond.instanceMethod yX1_removeCall, Cond.selects RX1 yX1_removeCall yX1_removeCall, Cond.code yX1_removeCall cX1_removeCall 2 none, Cond.fieldLink RX1 39 "ClosExchange$Network" "inlets" "LClosExchange$Row;", Cond.fieldLink RX1 33 "ClosExchange$Network" "outlets" "LClosExchange$Row;", Cond.methodLink RX1 101 yX1_liftCall, Cond.instanceMethod yX1_liftCall, Cond.selects RX1 yX1_liftCall yX1_liftCall, Cond.code yX1_liftCall cX1_liftCall 3 none, Cond.fieldLink RX1 45 "ClosExchange$Network" "lastLinks" "LClosExchange$Row;", Cond.methodLink RX1 104 yX1_boardOf, Cond.methodLink RX1 97 yX4_set, Cond.methodLink RX3 33 yX3_settle, Cond.instanceMethod yX3_settle, Cond.selects RX3 yX3_settle yX3_settle, Cond.code yX3_settle cX3_settle 5 none, Cond.methodLink RX3 71 yX1_liftCall, Cond.methodLink RX3 167 yX1_carryCall, Cond.instanceMethod yX1_carryCall, Cond.selects RX1 yX1_carryCall yX1_carryCall, Cond.code yX1_carryCall cX1_carryCall 3 none]
def wsX3_reroute : List Cond := .code yX3_reroute cX3_reroute 6 (some .int) :: ((wsX3_reroute_r1 ++ (wsX3_reroute_r2 ++ (wsX3_reroute_r3 ++ wsX3_reroute_r4))) ++ wsX10 ++ wsX40 ++ wsX30)
def wsX3_retire_r1 : List Cond := [Cond.fieldLink RX3 61 "ClosExchange$Network" "service" "I", Cond.fieldLink RX3 68 "ClosExchange$Network" "vias" "LClosExchange$Row;", Cond.methodLink RX3 58 yX1_isMiddle, Cond.instanceMethod yX1_isMiddle, Cond.selects RX1 yX1_isMiddle yX1_isMiddle, Cond.initialized RX1, Cond.code yX1_isMiddle cX1_isMiddle 2 (some .boolean), Cond.fieldLink RX1 18 "ClosExchange$Network" "middles" "I", Cond.static yX5_hasBit, Cond.initialized RX5, Cond.code yX5_hasBit cX5_hasBit 2 (some .boolean), Cond.methodLink RX3 47 yX4_get, Cond.instanceMethod yX4_get, Cond.selects RX4 yX4_get yX4_get, Cond.initialized RX4, Cond.code yX4_get cX4_get 2 (some .int), Cond.fieldLink RX4 15 "ClosExchange$Row" "cells" "[I", Cond.methodLink RX3 71 yX1_liftCall, Cond.instanceMethod yX1_liftCall, Cond.selects RX1 yX1_liftCall yX1_liftCall, Cond.code yX1_liftCall cX1_liftCall 3 none, Cond.fieldLink RX1 36 "ClosExchange$Network" "vias" "LClosExchange$Row;", Cond.fieldLink RX1 42 "ClosExchange$Network" "firstLinks" "LClosExchange$Row;", Cond.fieldLink RX1 45 "ClosExchange$Network" "lastLinks" "LClosExchange$Row;"]
def wsX3_retire_r2 : List Cond := [Cond.fieldLink RX1 33 "ClosExchange$Network" "outlets" "LClosExchange$Row;", Cond.methodLink RX1 77 yX4_get, Cond.methodLink RX1 104 yX1_boardOf, Cond.instanceMethod yX1_boardOf, Cond.selects RX1 yX1_boardOf yX1_boardOf, Cond.code yX1_boardOf cX1_boardOf 2 (some .int), Cond.fieldLink RX1 15 "ClosExchange$Network" "lines" "I", Cond.static yX5_link, Cond.code yX5_link cX5_link 2 (some .int), Cond.methodLink RX1 97 yX4_set, Cond.instanceMethod yX4_set, Cond.selects RX4 yX4_set yX4_set, Cond.code yX4_set cX4_set 3 none, Cond.methodLink RX3 74 yX3_reroute, Cond.instanceMethod yX3_reroute, Cond.selects RX3 yX3_reroute yX3_reroute, Cond.initialized RX3, Cond.code yX3_reroute cX3_reroute 6 (some .int), Cond.fieldLink RX3 113 "ClosExchange$Network" "outlets" "LClosExchange$Row;", Cond.fieldLink RX3 87 "ClosExchange$Network" "moved" "I", Cond.fieldLink RX3 116 "ClosExchange$Network" "dropped" "I", Cond.methodLink RX3 110 yX1_firstLifted, Cond.instanceMethod yX1_firstLifted, Cond.selects RX1 yX1_firstLifted yX1_firstLifted]
def wsX3_retire_r3 : List Cond := [Cond.code yX1_firstLifted cX1_firstLifted 3 (some .int), Cond.fieldLink RX1 29 "ClosExchange$Network" "numbers" "LClosExchange$Row;", Cond.methodLink RX1 85 yX1_isInletBusy, Cond.instanceMethod yX1_isInletBusy, Cond.selects RX1 yX1_isInletBusy yX1_isInletBusy, Cond.code yX1_isInletBusy cX1_isInletBusy 2 (some .boolean), Cond.methodLink RX3 107 yX3_findWay, Cond.instanceMethod yX3_findWay, Cond.selects RX3 yX3_findWay yX3_findWay, Cond.code yX3_findWay cX3_findWay 7 (some .int), Cond.fieldLink RX3 119 "ClosExchange$Router" "chainLength" "I", Cond.fieldLink RX3 125 "ClosExchange$Network" "firstLinks" "LClosExchange$Row;", Cond.fieldLink RX3 132 "ClosExchange$Network" "lastLinks" "LClosExchange$Row;", Cond.fieldLink RX3 143 "ClosExchange$Router" "pairP" "I", Cond.methodLink RX3 122 yX1_boardOf, Cond.methodLink RX3 128 yX1_freeOnLinks, Cond.instanceMethod yX1_freeOnLinks, Cond.selects RX1 yX1_freeOnLinks yX1_freeOnLinks, Cond.code yX1_freeOnLinks cX1_freeOnLinks 5 (some .int), Cond.fieldLink RX1 21 "ClosExchange$Network" "service" "I", Cond.methodLink RX3 135 yX3_choose, Cond.instanceMethod yX3_choose, Cond.selects RX3 yX3_choose yX3_choose, Cond.code yX3_choose cX3_choose 8 (some .int)]
def wsX3_retire_r4 : List Cond := [Cond.fieldLink RX3 146 "ClosExchange$Network" "choiceRule" "I", Cond.methodLink RX3 149 yX1_loadOf, Cond.instanceMethod yX1_loadOf, Cond.selects RX1 yX1_loadOf yX1_loadOf, Cond.code yX1_loadOf cX1_loadOf 4 (some .int), Cond.fieldLink RX1 9 "ClosExchange$Network" "boards" "I", Cond.methodLink RX3 139 yX3_findPair, Cond.instanceMethod yX3_findPair, Cond.selects RX3 yX3_findPair yX3_findPair, Cond.code yX3_findPair cX3_findPair 11 none, Cond.fieldLink RX3 155 "ClosExchange$Network" "pairRule" "I", Cond.methodLink RX3 152 yX3_follow, Cond.instanceMethod yX3_follow, Cond.selects RX3 yX3_follow yX3_follow, Cond.code yX3_follow cX3_follow 9 none, Cond.fieldLink RX3 158 "ClosExchange$Router" "pairQ" "I", Cond.fieldLink RX3 14 "ClosExchange$Router" "chain" "LClosExchange$Row;", Cond.methodLink RX3 164 yX4_set, Cond.methodLink RX3 51 yX1_removeCall, Cond.instanceMethod yX1_removeCall, Cond.selects RX1 yX1_removeCall yX1_removeCall, Cond.code yX1_removeCall cX1_removeCall 2 none, Cond.fieldLink RX1 39 "ClosExchange$Network" "inlets" "LClosExchange$Row;", Cond.methodLink RX1 101 yX1_liftCall]
def wsX3_retire_r5 : List Cond := [Cond.methodLink RX3 33 yX3_settle, Cond.instanceMethod yX3_settle, Cond.selects RX3 yX3_settle yX3_settle, Cond.code yX3_settle cX3_settle 5 none, Cond.methodLink RX3 167 yX1_carryCall, Cond.instanceMethod yX1_carryCall, Cond.selects RX1 yX1_carryCall yX1_carryCall, Cond.code yX1_carryCall cX1_carryCall 3 none]
def wsX3_retire : List Cond := .code yX3_retire cX3_retire 4 (some .int) :: ((wsX3_retire_r1 ++ (wsX3_retire_r2 ++ (wsX3_retire_r3 ++ (wsX3_retire_r4 ++ wsX3_retire_r5)))) ++ wsX10 ++ wsX40 ++ wsX30)
def wsJ6_bitCount_0f7a4 : List Cond := .code yJ6_bitCount_0f7a4 cJ6_bitCount_0f7a4 1 (some .int) :: ([.constant RJ6 265 (1431655765), .constant RJ6 266 (858993459), .constant RJ6 267 (252645135)])
def wsX3_revive : List Cond := .code yX3_revive cX3_revive 3 (some .int) :: ([.fieldLink RX3 61 "ClosExchange$Network" "service" "I", .methodLink RX3 58 yX1_isMiddle, .instanceMethod yX1_isMiddle, .selects RX1 yX1_isMiddle yX1_isMiddle, .initialized RX1, .code yX1_isMiddle cX1_isMiddle 2 (some .boolean), .fieldLink RX1 18 "ClosExchange$Network" "middles" "I", .static yX5_hasBit, .initialized RX5, .code yX5_hasBit cX5_hasBit 2 (some .boolean), .methodLink RX3 78 yJ6_bitCount_0f7a4, .static yJ6_bitCount_0f7a4, .initialized RJ6, .code yJ6_bitCount_0f7a4 cJ6_bitCount_0f7a4 1 (some .int), .constant RJ6 265 (1431655765), .constant RJ6 266 (858993459), .constant RJ6 267 (252645135)] ++ wsX10)
def wsX3_lowestBits : List Cond := .code yX3_lowestBits cX3_lowestBits 5 (some .int) :: ([.static yX5_hasBit, .initialized RX5, .code yX5_hasBit cX5_hasBit 2 (some .boolean)])
def wsX3_countChanged : List Cond := .code yX3_countChanged cX3_countChanged 4 (some .int) :: ([.fieldLink RX3 68 "ClosExchange$Network" "vias" "LClosExchange$Row;", .fieldLink RX3 20 "ClosExchange$Router" "formerVias" "LClosExchange$Row;", .methodLink RX3 47 yX4_get, .instanceMethod yX4_get, .selects RX4 yX4_get yX4_get, .initialized RX4, .code yX4_get cX4_get 2 (some .int), .fieldLink RX4 15 "ClosExchange$Row" "cells" "[I"] ++ wsX10 ++ wsX30 ++ wsX40)
def wsX3_repack_r1 : List Cond := [Cond.fieldLink RX3 61 "ClosExchange$Network" "service" "I", Cond.fieldLink RX3 87 "ClosExchange$Network" "moved" "I", Cond.fieldLink RX3 20 "ClosExchange$Router" "formerVias" "LClosExchange$Row;", Cond.fieldLink RX3 68 "ClosExchange$Network" "vias" "LClosExchange$Row;", Cond.methodLink RX3 83 yX1_countCalls, Cond.instanceMethod yX1_countCalls, Cond.selects RX1 yX1_countCalls yX1_countCalls, Cond.initialized RX1, Cond.code yX1_countCalls cX1_countCalls 3 (some .int), Cond.fieldLink RX1 29 "ClosExchange$Network" "numbers" "LClosExchange$Row;", Cond.methodLink RX1 77 yX4_get, Cond.instanceMethod yX4_get, Cond.selects RX4 yX4_get yX4_get, Cond.initialized RX4, Cond.code yX4_get cX4_get 2 (some .int), Cond.fieldLink RX4 15 "ClosExchange$Row" "cells" "[I", Cond.methodLink RX3 90 yX1_fullestBoard, Cond.instanceMethod yX1_fullestBoard, Cond.selects RX1 yX1_fullestBoard yX1_fullestBoard, Cond.code yX1_fullestBoard cX1_fullestBoard 6 (some .int), Cond.fieldLink RX1 9 "ClosExchange$Network" "boards" "I", Cond.fieldLink RX1 15 "ClosExchange$Network" "lines" "I", Cond.methodLink RX1 92 Lib.Math.max.name, Cond.static Lib.Math.max.name]
def wsX3_repack_r2 : List Cond := [Cond.initialized "java/lang/Math", Cond.code Lib.Math.max.name Lib.Math.max.code 2 (some .int), Cond.methodLink RX1 85 yX1_isInletBusy, Cond.instanceMethod yX1_isInletBusy, Cond.selects RX1 yX1_isInletBusy yX1_isInletBusy, Cond.code yX1_isInletBusy cX1_isInletBusy 2 (some .boolean), Cond.methodLink RX1 89 yX1_isOutletBusy, Cond.instanceMethod yX1_isOutletBusy, Cond.selects RX1 yX1_isOutletBusy yX1_isOutletBusy, Cond.code yX1_isOutletBusy cX1_isOutletBusy 2 (some .boolean), Cond.fieldLink RX1 39 "ClosExchange$Network" "inlets" "LClosExchange$Row;", Cond.methodLink RX3 93 yX3_lowestBits, Cond.static yX3_lowestBits, Cond.initialized RX3, Cond.code yX3_lowestBits cX3_lowestBits 5 (some .int), Cond.static yX5_hasBit, Cond.initialized RX5, Cond.code yX5_hasBit cX5_hasBit 2 (some .boolean), Cond.methodLink RX3 97 yX4_copyFrom, Cond.instanceMethod yX4_copyFrom, Cond.selects RX4 yX4_copyFrom yX4_copyFrom, Cond.code yX4_copyFrom cX4_copyFrom 2 none, Cond.methodLink RX4 27 Lib.Math.min.name, Cond.static Lib.Math.min.name]
def wsX3_repack_r3 : List Cond := [Cond.code Lib.Math.min.name Lib.Math.min.code 2 (some .int), Cond.methodLink RX4 30 arraycopyName, Cond.native arraycopyName, Cond.static arraycopyName, Cond.initialized "java/lang/System", Cond.methodLink RX3 71 yX1_liftCall, Cond.instanceMethod yX1_liftCall, Cond.selects RX1 yX1_liftCall yX1_liftCall, Cond.code yX1_liftCall cX1_liftCall 3 none, Cond.fieldLink RX1 36 "ClosExchange$Network" "vias" "LClosExchange$Row;", Cond.fieldLink RX1 42 "ClosExchange$Network" "firstLinks" "LClosExchange$Row;", Cond.fieldLink RX1 45 "ClosExchange$Network" "lastLinks" "LClosExchange$Row;", Cond.fieldLink RX1 33 "ClosExchange$Network" "outlets" "LClosExchange$Row;", Cond.methodLink RX1 104 yX1_boardOf, Cond.instanceMethod yX1_boardOf, Cond.selects RX1 yX1_boardOf yX1_boardOf, Cond.code yX1_boardOf cX1_boardOf 2 (some .int), Cond.static yX5_link, Cond.code yX5_link cX5_link 2 (some .int), Cond.methodLink RX1 97 yX4_set, Cond.instanceMethod yX4_set, Cond.selects RX4 yX4_set yX4_set, Cond.code yX4_set cX4_set 3 none, Cond.methodLink RX3 74 yX3_reroute]
def wsX3_repack_r4 : List Cond := [Cond.instanceMethod yX3_reroute, Cond.selects RX3 yX3_reroute yX3_reroute, Cond.code yX3_reroute cX3_reroute 6 (some .int), Cond.fieldLink RX3 113 "ClosExchange$Network" "outlets" "LClosExchange$Row;", Cond.fieldLink RX3 116 "ClosExchange$Network" "dropped" "I", Cond.methodLink RX3 110 yX1_firstLifted, Cond.instanceMethod yX1_firstLifted, Cond.selects RX1 yX1_firstLifted yX1_firstLifted, Cond.code yX1_firstLifted cX1_firstLifted 3 (some .int), Cond.methodLink RX3 47 yX4_get, Cond.methodLink RX3 107 yX3_findWay, Cond.instanceMethod yX3_findWay, Cond.selects RX3 yX3_findWay yX3_findWay, Cond.code yX3_findWay cX3_findWay 7 (some .int), Cond.fieldLink RX3 119 "ClosExchange$Router" "chainLength" "I", Cond.fieldLink RX3 125 "ClosExchange$Network" "firstLinks" "LClosExchange$Row;", Cond.fieldLink RX3 132 "ClosExchange$Network" "lastLinks" "LClosExchange$Row;", Cond.fieldLink RX3 143 "ClosExchange$Router" "pairP" "I", Cond.methodLink RX3 122 yX1_boardOf, Cond.methodLink RX3 128 yX1_freeOnLinks, Cond.instanceMethod yX1_freeOnLinks, Cond.selects RX1 yX1_freeOnLinks yX1_freeOnLinks, Cond.code yX1_freeOnLinks cX1_freeOnLinks 5 (some .int), Cond.fieldLink RX1 18 "ClosExchange$Network" "middles" "I"]
def wsX3_repack_r5 : List Cond := [Cond.fieldLink RX1 21 "ClosExchange$Network" "service" "I", Cond.methodLink RX3 135 yX3_choose, Cond.instanceMethod yX3_choose, Cond.selects RX3 yX3_choose yX3_choose, Cond.code yX3_choose cX3_choose 8 (some .int), Cond.fieldLink RX3 146 "ClosExchange$Network" "choiceRule" "I", Cond.methodLink RX3 149 yX1_loadOf, Cond.instanceMethod yX1_loadOf, Cond.selects RX1 yX1_loadOf yX1_loadOf, Cond.code yX1_loadOf cX1_loadOf 4 (some .int), Cond.methodLink RX3 139 yX3_findPair, Cond.instanceMethod yX3_findPair, Cond.selects RX3 yX3_findPair yX3_findPair, Cond.code yX3_findPair cX3_findPair 11 none, Cond.fieldLink RX3 155 "ClosExchange$Network" "pairRule" "I", Cond.methodLink RX3 152 yX3_follow, Cond.instanceMethod yX3_follow, Cond.selects RX3 yX3_follow yX3_follow, Cond.code yX3_follow cX3_follow 9 none, Cond.fieldLink RX3 158 "ClosExchange$Router" "pairQ" "I", Cond.fieldLink RX3 14 "ClosExchange$Router" "chain" "LClosExchange$Row;", Cond.methodLink RX3 164 yX4_set, Cond.methodLink RX3 51 yX1_removeCall, Cond.instanceMethod yX1_removeCall]
def wsX3_repack_r6 : List Cond := [Cond.selects RX1 yX1_removeCall yX1_removeCall, Cond.code yX1_removeCall cX1_removeCall 2 none, Cond.methodLink RX1 101 yX1_liftCall, Cond.methodLink RX3 33 yX3_settle, Cond.instanceMethod yX3_settle, Cond.selects RX3 yX3_settle yX3_settle, Cond.code yX3_settle cX3_settle 5 none, Cond.methodLink RX3 167 yX1_carryCall, Cond.instanceMethod yX1_carryCall, Cond.selects RX1 yX1_carryCall yX1_carryCall, Cond.code yX1_carryCall cX1_carryCall 3 none, Cond.methodLink RX3 101 yX3_countChanged, Cond.instanceMethod yX3_countChanged, Cond.selects RX3 yX3_countChanged yX3_countChanged, Cond.code yX3_countChanged cX3_countChanged 4 (some .int)]
def wsX3_repack : List Cond := .code yX3_repack cX3_repack 5 (some .int) :: ((wsX3_repack_r1 ++ (wsX3_repack_r2 ++ (wsX3_repack_r3 ++ (wsX3_repack_r4 ++ (wsX3_repack_r5 ++ wsX3_repack_r6))))) ++ wsX10 ++ wsX30 ++ wsX40)
def wsX5_init_r1 : List Cond := [Cond.methodLink RX5 3 objectInit, Cond.instanceMethod objectInit, Cond.code objectInit ⟨#[0xb1]⟩ 1 none, Cond.classLink RX5 9 RX1, Cond.instantiable RX1 16, Cond.initialized RX1, Cond.fieldLink RX5 12 "ClosExchange" "network" "LClosExchange$Network;", Cond.fieldLink RX5 16 "ClosExchange" "before" "LClosExchange$Network;", Cond.fieldLink RX5 19 "ClosExchange" "snapshot" "LClosExchange$Network;", Cond.fieldLink RX5 22 "ClosExchange" "trial" "LClosExchange$Network;", Cond.classLink RX5 25 RX3, Cond.instantiable RX3 5, Cond.initialized RX3, Cond.fieldLink RX5 28 "ClosExchange" "router" "LClosExchange$Router;", Cond.classLink RX5 32 RX0, Cond.instantiable RX0 3, Cond.initialized RX0, Cond.fieldLink RX5 35 "ClosExchange" "history" "LClosExchange$History;", Cond.classLink RX5 39 RX2, Cond.instantiable RX2 6, Cond.initialized RX2, Cond.fieldLink RX5 42 "ClosExchange" "text" "LClosExchange$OrderText;", Cond.fieldLink RX5 46 "ClosExchange" "kept" "Z", Cond.methodLink RX5 11 yX1_init]
def wsX5_init_r2 : List Cond := [Cond.instanceMethod yX1_init, Cond.code yX1_init cX1_init 1 none, Cond.methodLink RX1 3 objectInit, Cond.fieldLink RX1 9 "ClosExchange$Network" "boards" "I", Cond.fieldLink RX1 15 "ClosExchange$Network" "lines" "I", Cond.fieldLink RX1 18 "ClosExchange$Network" "middles" "I", Cond.fieldLink RX1 21 "ClosExchange$Network" "service" "I", Cond.classLink RX1 24 RX4, Cond.instantiable RX4 1, Cond.initialized RX4, Cond.fieldLink RX1 29 "ClosExchange$Network" "numbers" "LClosExchange$Row;", Cond.fieldLink RX1 33 "ClosExchange$Network" "outlets" "LClosExchange$Row;", Cond.fieldLink RX1 36 "ClosExchange$Network" "vias" "LClosExchange$Row;", Cond.fieldLink RX1 39 "ClosExchange$Network" "inlets" "LClosExchange$Row;", Cond.fieldLink RX1 42 "ClosExchange$Network" "firstLinks" "LClosExchange$Row;", Cond.fieldLink RX1 45 "ClosExchange$Network" "lastLinks" "LClosExchange$Row;", Cond.methodLink RX1 26 yX4_init, Cond.instanceMethod yX4_init, Cond.code yX4_init cX4_init 2 none, Cond.methodLink RX4 3 objectInit, Cond.methodLink RX4 9 Lib.Math.max.name, Cond.static Lib.Math.max.name, Cond.initialized "java/lang/Math", Cond.code Lib.Math.max.name Lib.Math.max.code 2 (some .int)]
def wsX5_init_r3 : List Cond := [Cond.arrayClass .int, Cond.fieldLink RX4 15 "ClosExchange$Row" "cells" "[I", Cond.methodLink RX4 21 yJ7_fill_53178, Cond.static yJ7_fill_53178, Cond.initialized RJ7, Cond.code yJ7_fill_53178 cJ7_fill_53178 4 none, Cond.methodLink RX5 27 yX3_init, Cond.instanceMethod yX3_init, Cond.code yX3_init cX3_init 1 none, Cond.methodLink RX3 3 objectInit, Cond.classLink RX3 9 RX4, Cond.fieldLink RX3 14 "ClosExchange$Router" "chain" "LClosExchange$Row;", Cond.fieldLink RX3 20 "ClosExchange$Router" "formerVias" "LClosExchange$Row;", Cond.methodLink RX3 11 yX4_init, Cond.methodLink RX5 34 yX0_init, Cond.instanceMethod yX0_init, Cond.code yX0_init cX0_init 2 none, Cond.methodLink RX0 3 objectInit, Cond.classLink RX0 9 RX1, Cond.fieldLink RX0 11 "ClosExchange$History" "states" "[LClosExchange$Network;", Cond.methodLink RX0 17 yX1_init, Cond.methodLink RX5 41 yX2_init, Cond.instanceMethod yX2_init, Cond.code yX2_init cX2_init 1 none]
def wsX5_init_r4 : List Cond := [Cond.methodLink RX2 3 objectInit, Cond.classLink RX2 9 RX4, Cond.fieldLink RX2 14 "ClosExchange$OrderText" "signs" "LClosExchange$Row;", Cond.methodLink RX2 11 yX4_init]
def wsX5_init : List Cond := .code yX5_init cX5_init 1 none :: ((wsX5_init_r1 ++ (wsX5_init_r2 ++ (wsX5_init_r3 ++ wsX5_init_r4))) ++ wsX10 ++ wsX50 ++ wsX30 ++ wsX00 ++ wsX20 ++ wsX40)
def wsX5_within : List Cond := .code yX5_within cX5_within 3 (some .boolean) :: ([])
def wsX5_setUp_r1 : List Cond := [Cond.fieldLink RX5 35 "ClosExchange" "history" "LClosExchange$History;", Cond.fieldLink RX5 12 "ClosExchange" "network" "LClosExchange$Network;", Cond.methodLink RX5 50 yX5_within, Cond.static yX5_within, Cond.initialized RX5, Cond.code yX5_within cX5_within 3 (some .boolean), Cond.methodLink RX5 54 yX0_push, Cond.instanceMethod yX0_push, Cond.selects RX0 yX0_push yX0_push, Cond.initialized RX0, Cond.code yX0_push cX0_push 3 none, Cond.fieldLink RX0 18 "ClosExchange$History" "latest" "I", Cond.fieldLink RX0 30 "ClosExchange$History" "count" "I", Cond.methodLink RX0 33 Lib.Math.min.name, Cond.static Lib.Math.min.name, Cond.initialized "java/lang/Math", Cond.code Lib.Math.min.name Lib.Math.min.code 2 (some .int), Cond.methodLink RX0 22 yX0_latestState, Cond.instanceMethod yX0_latestState, Cond.selects RX0 yX0_latestState yX0_latestState, Cond.code yX0_latestState cX0_latestState 1 (some (.object "ClosExchange$Network")), Cond.fieldLink RX0 11 "ClosExchange$History" "states" "[LClosExchange$Network;", Cond.methodLink RX0 26 yX1_copyFrom, Cond.instanceMethod yX1_copyFrom]
def wsX5_setUp_r2 : List Cond := [Cond.selects RX1 yX1_copyFrom yX1_copyFrom, Cond.initialized RX1, Cond.code yX1_copyFrom cX1_copyFrom 2 none, Cond.fieldLink RX1 9 "ClosExchange$Network" "boards" "I", Cond.fieldLink RX1 15 "ClosExchange$Network" "lines" "I", Cond.fieldLink RX1 18 "ClosExchange$Network" "middles" "I", Cond.fieldLink RX1 21 "ClosExchange$Network" "service" "I", Cond.fieldLink RX1 48 "ClosExchange$Network" "choiceRule" "I", Cond.fieldLink RX1 51 "ClosExchange$Network" "pairRule" "I", Cond.fieldLink RX1 54 "ClosExchange$Network" "connected" "I", Cond.fieldLink RX1 57 "ClosExchange$Network" "ended" "I", Cond.fieldLink RX1 60 "ClosExchange$Network" "dropped" "I", Cond.fieldLink RX1 63 "ClosExchange$Network" "moved" "I", Cond.fieldLink RX1 29 "ClosExchange$Network" "numbers" "LClosExchange$Row;", Cond.fieldLink RX1 33 "ClosExchange$Network" "outlets" "LClosExchange$Row;", Cond.fieldLink RX1 36 "ClosExchange$Network" "vias" "LClosExchange$Row;", Cond.fieldLink RX1 39 "ClosExchange$Network" "inlets" "LClosExchange$Row;", Cond.fieldLink RX1 42 "ClosExchange$Network" "firstLinks" "LClosExchange$Row;", Cond.fieldLink RX1 45 "ClosExchange$Network" "lastLinks" "LClosExchange$Row;", Cond.methodLink RX1 66 yX4_copyFrom, Cond.instanceMethod yX4_copyFrom, Cond.selects RX4 yX4_copyFrom yX4_copyFrom, Cond.initialized RX4, Cond.code yX4_copyFrom cX4_copyFrom 2 none]
def wsX5_setUp_r3 : List Cond := [Cond.fieldLink RX4 15 "ClosExchange$Row" "cells" "[I", Cond.methodLink RX4 27 Lib.Math.min.name, Cond.methodLink RX4 30 arraycopyName, Cond.native arraycopyName, Cond.static arraycopyName, Cond.initialized "java/lang/System", Cond.methodLink RX5 58 yX1_rebuild, Cond.instanceMethod yX1_rebuild, Cond.selects RX1 yX1_rebuild yX1_rebuild, Cond.code yX1_rebuild cX1_rebuild 5 (some .int), Cond.methodLink RX1 70 yX1_countCalls, Cond.instanceMethod yX1_countCalls, Cond.selects RX1 yX1_countCalls yX1_countCalls, Cond.code yX1_countCalls cX1_countCalls 3 (some .int), Cond.methodLink RX1 77 yX4_get, Cond.instanceMethod yX4_get, Cond.selects RX4 yX4_get yX4_get, Cond.code yX4_get cX4_get 2 (some .int), Cond.methodLink RX1 74 yX4_empty, Cond.instanceMethod yX4_empty, Cond.selects RX4 yX4_empty yX4_empty, Cond.code yX4_empty cX4_empty 1 none, Cond.methodLink RX4 21 yJ7_fill_53178, Cond.static yJ7_fill_53178]
def wsX5_setUp_r4 : List Cond := [Cond.initialized RJ7, Cond.code yJ7_fill_53178 cJ7_fill_53178 4 none]
def wsX5_setUp : List Cond := .code yX5_setUp cX5_setUp 4 (some .int) :: ((wsX5_setUp_r1 ++ (wsX5_setUp_r2 ++ (wsX5_setUp_r3 ++ wsX5_setUp_r4))) ++ wsX50 ++ wsX00 ++ wsX10 ++ wsX40)
def wsX5_setChoiceRule_r1 : List Cond := [Cond.fieldLink RX5 12 "ClosExchange" "network" "LClosExchange$Network;", Cond.fieldLink RX5 62 "ClosExchange$Network" "choiceRule" "I", Cond.fieldLink RX5 35 "ClosExchange" "history" "LClosExchange$History;", Cond.methodLink RX5 50 yX5_within, Cond.static yX5_within, Cond.initialized RX5, Cond.code yX5_within cX5_within 3 (some .boolean), Cond.methodLink RX5 54 yX0_push, Cond.instanceMethod yX0_push, Cond.selects RX0 yX0_push yX0_push, Cond.initialized RX0, Cond.code yX0_push cX0_push 3 none, Cond.fieldLink RX0 18 "ClosExchange$History" "latest" "I", Cond.fieldLink RX0 30 "ClosExchange$History" "count" "I", Cond.methodLink RX0 33 Lib.Math.min.name, Cond.static Lib.Math.min.name, Cond.initialized "java/lang/Math", Cond.code Lib.Math.min.name Lib.Math.min.code 2 (some .int), Cond.methodLink RX0 22 yX0_latestState, Cond.instanceMethod yX0_latestState, Cond.selects RX0 yX0_latestState yX0_latestState, Cond.code yX0_latestState cX0_latestState 1 (some (.object "ClosExchange$Network")), Cond.fieldLink RX0 11 "ClosExchange$History" "states" "[LClosExchange$Network;", Cond.methodLink RX0 26 yX1_copyFrom]
def wsX5_setChoiceRule_r2 : List Cond := [Cond.instanceMethod yX1_copyFrom, Cond.selects RX1 yX1_copyFrom yX1_copyFrom, Cond.initialized RX1, Cond.code yX1_copyFrom cX1_copyFrom 2 none, Cond.fieldLink RX1 9 "ClosExchange$Network" "boards" "I", Cond.fieldLink RX1 15 "ClosExchange$Network" "lines" "I", Cond.fieldLink RX1 18 "ClosExchange$Network" "middles" "I", Cond.fieldLink RX1 21 "ClosExchange$Network" "service" "I", Cond.fieldLink RX1 48 "ClosExchange$Network" "choiceRule" "I", Cond.fieldLink RX1 51 "ClosExchange$Network" "pairRule" "I", Cond.fieldLink RX1 54 "ClosExchange$Network" "connected" "I", Cond.fieldLink RX1 57 "ClosExchange$Network" "ended" "I", Cond.fieldLink RX1 60 "ClosExchange$Network" "dropped" "I", Cond.fieldLink RX1 63 "ClosExchange$Network" "moved" "I", Cond.fieldLink RX1 29 "ClosExchange$Network" "numbers" "LClosExchange$Row;", Cond.fieldLink RX1 33 "ClosExchange$Network" "outlets" "LClosExchange$Row;", Cond.fieldLink RX1 36 "ClosExchange$Network" "vias" "LClosExchange$Row;", Cond.fieldLink RX1 39 "ClosExchange$Network" "inlets" "LClosExchange$Row;", Cond.fieldLink RX1 42 "ClosExchange$Network" "firstLinks" "LClosExchange$Row;", Cond.fieldLink RX1 45 "ClosExchange$Network" "lastLinks" "LClosExchange$Row;", Cond.methodLink RX1 66 yX4_copyFrom, Cond.instanceMethod yX4_copyFrom, Cond.selects RX4 yX4_copyFrom yX4_copyFrom, Cond.initialized RX4]
def wsX5_setChoiceRule_r3 : List Cond := [Cond.code yX4_copyFrom cX4_copyFrom 2 none, Cond.fieldLink RX4 15 "ClosExchange$Row" "cells" "[I", Cond.methodLink RX4 27 Lib.Math.min.name, Cond.methodLink RX4 30 arraycopyName, Cond.native arraycopyName, Cond.static arraycopyName, Cond.initialized "java/lang/System"]
def wsX5_setChoiceRule : List Cond := .code yX5_setChoiceRule cX5_setChoiceRule 3 (some .int) :: ((wsX5_setChoiceRule_r1 ++ (wsX5_setChoiceRule_r2 ++ wsX5_setChoiceRule_r3)) ++ wsX50 ++ wsX10 ++ wsX00 ++ wsX40)
def wsX5_setPairRule_r1 : List Cond := [Cond.fieldLink RX5 12 "ClosExchange" "network" "LClosExchange$Network;", Cond.fieldLink RX5 66 "ClosExchange$Network" "pairRule" "I", Cond.fieldLink RX5 35 "ClosExchange" "history" "LClosExchange$History;", Cond.methodLink RX5 50 yX5_within, Cond.static yX5_within, Cond.initialized RX5, Cond.code yX5_within cX5_within 3 (some .boolean), Cond.methodLink RX5 54 yX0_push, Cond.instanceMethod yX0_push, Cond.selects RX0 yX0_push yX0_push, Cond.initialized RX0, Cond.code yX0_push cX0_push 3 none, Cond.fieldLink RX0 18 "ClosExchange$History" "latest" "I", Cond.fieldLink RX0 30 "ClosExchange$History" "count" "I", Cond.methodLink RX0 33 Lib.Math.min.name, Cond.static Lib.Math.min.name, Cond.initialized "java/lang/Math", Cond.code Lib.Math.min.name Lib.Math.min.code 2 (some .int), Cond.methodLink RX0 22 yX0_latestState, Cond.instanceMethod yX0_latestState, Cond.selects RX0 yX0_latestState yX0_latestState, Cond.code yX0_latestState cX0_latestState 1 (some (.object "ClosExchange$Network")), Cond.fieldLink RX0 11 "ClosExchange$History" "states" "[LClosExchange$Network;", Cond.methodLink RX0 26 yX1_copyFrom]
def wsX5_setPairRule_r2 : List Cond := [Cond.instanceMethod yX1_copyFrom, Cond.selects RX1 yX1_copyFrom yX1_copyFrom, Cond.initialized RX1, Cond.code yX1_copyFrom cX1_copyFrom 2 none, Cond.fieldLink RX1 9 "ClosExchange$Network" "boards" "I", Cond.fieldLink RX1 15 "ClosExchange$Network" "lines" "I", Cond.fieldLink RX1 18 "ClosExchange$Network" "middles" "I", Cond.fieldLink RX1 21 "ClosExchange$Network" "service" "I", Cond.fieldLink RX1 48 "ClosExchange$Network" "choiceRule" "I", Cond.fieldLink RX1 51 "ClosExchange$Network" "pairRule" "I", Cond.fieldLink RX1 54 "ClosExchange$Network" "connected" "I", Cond.fieldLink RX1 57 "ClosExchange$Network" "ended" "I", Cond.fieldLink RX1 60 "ClosExchange$Network" "dropped" "I", Cond.fieldLink RX1 63 "ClosExchange$Network" "moved" "I", Cond.fieldLink RX1 29 "ClosExchange$Network" "numbers" "LClosExchange$Row;", Cond.fieldLink RX1 33 "ClosExchange$Network" "outlets" "LClosExchange$Row;", Cond.fieldLink RX1 36 "ClosExchange$Network" "vias" "LClosExchange$Row;", Cond.fieldLink RX1 39 "ClosExchange$Network" "inlets" "LClosExchange$Row;", Cond.fieldLink RX1 42 "ClosExchange$Network" "firstLinks" "LClosExchange$Row;", Cond.fieldLink RX1 45 "ClosExchange$Network" "lastLinks" "LClosExchange$Row;", Cond.methodLink RX1 66 yX4_copyFrom, Cond.instanceMethod yX4_copyFrom, Cond.selects RX4 yX4_copyFrom yX4_copyFrom, Cond.initialized RX4]
def wsX5_setPairRule_r3 : List Cond := [Cond.code yX4_copyFrom cX4_copyFrom 2 none, Cond.fieldLink RX4 15 "ClosExchange$Row" "cells" "[I", Cond.methodLink RX4 27 Lib.Math.min.name, Cond.methodLink RX4 30 arraycopyName, Cond.native arraycopyName, Cond.static arraycopyName, Cond.initialized "java/lang/System"]
def wsX5_setPairRule : List Cond := .code yX5_setPairRule cX5_setPairRule 3 (some .int) :: ((wsX5_setPairRule_r1 ++ (wsX5_setPairRule_r2 ++ wsX5_setPairRule_r3)) ++ wsX50 ++ wsX10 ++ wsX00 ++ wsX40)
def wsX5_recorded_r1 : List Cond := [Cond.fieldLink RX5 35 "ClosExchange" "history" "LClosExchange$History;", Cond.fieldLink RX5 16 "ClosExchange" "before" "LClosExchange$Network;", Cond.methodLink RX5 54 yX0_push, Cond.instanceMethod yX0_push, Cond.selects RX0 yX0_push yX0_push, Cond.initialized RX0, Cond.code yX0_push cX0_push 3 none, Cond.fieldLink RX0 18 "ClosExchange$History" "latest" "I", Cond.fieldLink RX0 30 "ClosExchange$History" "count" "I", Cond.methodLink RX0 33 Lib.Math.min.name, Cond.static Lib.Math.min.name, Cond.initialized "java/lang/Math", Cond.code Lib.Math.min.name Lib.Math.min.code 2 (some .int), Cond.methodLink RX0 22 yX0_latestState, Cond.instanceMethod yX0_latestState, Cond.selects RX0 yX0_latestState yX0_latestState, Cond.code yX0_latestState cX0_latestState 1 (some (.object "ClosExchange$Network")), Cond.fieldLink RX0 11 "ClosExchange$History" "states" "[LClosExchange$Network;", Cond.methodLink RX0 26 yX1_copyFrom, Cond.instanceMethod yX1_copyFrom, Cond.selects RX1 yX1_copyFrom yX1_copyFrom, Cond.initialized RX1, Cond.code yX1_copyFrom cX1_copyFrom 2 none, Cond.fieldLink RX1 9 "ClosExchange$Network" "boards" "I"]
def wsX5_recorded_r2 : List Cond := [Cond.fieldLink RX1 15 "ClosExchange$Network" "lines" "I", Cond.fieldLink RX1 18 "ClosExchange$Network" "middles" "I", Cond.fieldLink RX1 21 "ClosExchange$Network" "service" "I", Cond.fieldLink RX1 48 "ClosExchange$Network" "choiceRule" "I", Cond.fieldLink RX1 51 "ClosExchange$Network" "pairRule" "I", Cond.fieldLink RX1 54 "ClosExchange$Network" "connected" "I", Cond.fieldLink RX1 57 "ClosExchange$Network" "ended" "I", Cond.fieldLink RX1 60 "ClosExchange$Network" "dropped" "I", Cond.fieldLink RX1 63 "ClosExchange$Network" "moved" "I", Cond.fieldLink RX1 29 "ClosExchange$Network" "numbers" "LClosExchange$Row;", Cond.fieldLink RX1 33 "ClosExchange$Network" "outlets" "LClosExchange$Row;", Cond.fieldLink RX1 36 "ClosExchange$Network" "vias" "LClosExchange$Row;", Cond.fieldLink RX1 39 "ClosExchange$Network" "inlets" "LClosExchange$Row;", Cond.fieldLink RX1 42 "ClosExchange$Network" "firstLinks" "LClosExchange$Row;", Cond.fieldLink RX1 45 "ClosExchange$Network" "lastLinks" "LClosExchange$Row;", Cond.methodLink RX1 66 yX4_copyFrom, Cond.instanceMethod yX4_copyFrom, Cond.selects RX4 yX4_copyFrom yX4_copyFrom, Cond.initialized RX4, Cond.code yX4_copyFrom cX4_copyFrom 2 none, Cond.fieldLink RX4 15 "ClosExchange$Row" "cells" "[I", Cond.methodLink RX4 27 Lib.Math.min.name, Cond.methodLink RX4 30 arraycopyName, Cond.native arraycopyName]
def wsX5_recorded_r3 : List Cond := [Cond.static arraycopyName, Cond.initialized "java/lang/System"]
def wsX5_recorded : List Cond := .code yX5_recorded cX5_recorded 2 (some .int) :: ((wsX5_recorded_r1 ++ (wsX5_recorded_r2 ++ wsX5_recorded_r3)) ++ wsX50 ++ wsX00 ++ wsX10 ++ wsX40)
def wsX5_connect_r1 : List Cond := [Cond.fieldLink RX5 16 "ClosExchange" "before" "LClosExchange$Network;", Cond.fieldLink RX5 12 "ClosExchange" "network" "LClosExchange$Network;", Cond.fieldLink RX5 28 "ClosExchange" "router" "LClosExchange$Router;", Cond.methodLink RX5 69 yX1_copyFrom, Cond.instanceMethod yX1_copyFrom, Cond.selects RX1 yX1_copyFrom yX1_copyFrom, Cond.initialized RX1, Cond.code yX1_copyFrom cX1_copyFrom 2 none, Cond.fieldLink RX1 9 "ClosExchange$Network" "boards" "I", Cond.fieldLink RX1 15 "ClosExchange$Network" "lines" "I", Cond.fieldLink RX1 18 "ClosExchange$Network" "middles" "I", Cond.fieldLink RX1 21 "ClosExchange$Network" "service" "I", Cond.fieldLink RX1 48 "ClosExchange$Network" "choiceRule" "I", Cond.fieldLink RX1 51 "ClosExchange$Network" "pairRule" "I", Cond.fieldLink RX1 54 "ClosExchange$Network" "connected" "I", Cond.fieldLink RX1 57 "ClosExchange$Network" "ended" "I", Cond.fieldLink RX1 60 "ClosExchange$Network" "dropped" "I", Cond.fieldLink RX1 63 "ClosExchange$Network" "moved" "I", Cond.fieldLink RX1 29 "ClosExchange$Network" "numbers" "LClosExchange$Row;", Cond.fieldLink RX1 33 "ClosExchange$Network" "outlets" "LClosExchange$Row;", Cond.fieldLink RX1 36 "ClosExchange$Network" "vias" "LClosExchange$Row;", Cond.fieldLink RX1 39 "ClosExchange$Network" "inlets" "LClosExchange$Row;", Cond.fieldLink RX1 42 "ClosExchange$Network" "firstLinks" "LClosExchange$Row;", Cond.fieldLink RX1 45 "ClosExchange$Network" "lastLinks" "LClosExchange$Row;"]
def wsX5_connect_r2 : List Cond := [Cond.methodLink RX1 66 yX4_copyFrom, Cond.instanceMethod yX4_copyFrom, Cond.selects RX4 yX4_copyFrom yX4_copyFrom, Cond.initialized RX4, Cond.code yX4_copyFrom cX4_copyFrom 2 none, Cond.fieldLink RX4 15 "ClosExchange$Row" "cells" "[I", Cond.methodLink RX4 27 Lib.Math.min.name, Cond.static Lib.Math.min.name, Cond.initialized "java/lang/Math", Cond.code Lib.Math.min.name Lib.Math.min.code 2 (some .int), Cond.methodLink RX4 30 arraycopyName, Cond.native arraycopyName, Cond.static arraycopyName, Cond.initialized "java/lang/System", Cond.methodLink RX5 72 yX3_join, Cond.instanceMethod yX3_join, Cond.selects RX3 yX3_join yX3_join, Cond.initialized RX3, Cond.code yX3_join cX3_join 5 (some .int), Cond.methodLink RX3 23 yX3_tryCall, Cond.instanceMethod yX3_tryCall, Cond.selects RX3 yX3_tryCall yX3_tryCall, Cond.code yX3_tryCall cX3_tryCall 4 (some .int), Cond.methodLink RX3 37 yX1_isLine]
def wsX5_connect_r3 : List Cond := [Cond.instanceMethod yX1_isLine, Cond.selects RX1 yX1_isLine yX1_isLine, Cond.code yX1_isLine cX1_isLine 2 (some .boolean), Cond.methodLink RX3 41 yX1_isInletBusy, Cond.instanceMethod yX1_isInletBusy, Cond.selects RX1 yX1_isInletBusy yX1_isInletBusy, Cond.code yX1_isInletBusy cX1_isInletBusy 2 (some .boolean), Cond.methodLink RX1 77 yX4_get, Cond.instanceMethod yX4_get, Cond.selects RX4 yX4_get yX4_get, Cond.code yX4_get cX4_get 2 (some .int), Cond.methodLink RX3 104 yX1_isOutletBusy, Cond.instanceMethod yX1_isOutletBusy, Cond.selects RX1 yX1_isOutletBusy yX1_isOutletBusy, Cond.code yX1_isOutletBusy cX1_isOutletBusy 2 (some .boolean), Cond.methodLink RX3 107 yX3_findWay, Cond.instanceMethod yX3_findWay, Cond.selects RX3 yX3_findWay yX3_findWay, Cond.code yX3_findWay cX3_findWay 7 (some .int), Cond.fieldLink RX3 119 "ClosExchange$Router" "chainLength" "I", Cond.fieldLink RX3 125 "ClosExchange$Network" "firstLinks" "LClosExchange$Row;", Cond.fieldLink RX3 132 "ClosExchange$Network" "lastLinks" "LClosExchange$Row;", Cond.fieldLink RX3 143 "ClosExchange$Router" "pairP" "I", Cond.methodLink RX3 122 yX1_boardOf]
def wsX5_connect_r4 : List Cond := [Cond.instanceMethod yX1_boardOf, Cond.selects RX1 yX1_boardOf yX1_boardOf, Cond.code yX1_boardOf cX1_boardOf 2 (some .int), Cond.methodLink RX3 128 yX1_freeOnLinks, Cond.instanceMethod yX1_freeOnLinks, Cond.selects RX1 yX1_freeOnLinks yX1_freeOnLinks, Cond.code yX1_freeOnLinks cX1_freeOnLinks 5 (some .int), Cond.static yX5_link, Cond.initialized RX5, Cond.code yX5_link cX5_link 2 (some .int), Cond.methodLink RX3 135 yX3_choose, Cond.instanceMethod yX3_choose, Cond.selects RX3 yX3_choose yX3_choose, Cond.code yX3_choose cX3_choose 8 (some .int), Cond.fieldLink RX3 146 "ClosExchange$Network" "choiceRule" "I", Cond.static yX5_hasBit, Cond.code yX5_hasBit cX5_hasBit 2 (some .boolean), Cond.methodLink RX3 149 yX1_loadOf, Cond.instanceMethod yX1_loadOf, Cond.selects RX1 yX1_loadOf yX1_loadOf, Cond.code yX1_loadOf cX1_loadOf 4 (some .int), Cond.methodLink RX3 139 yX3_findPair, Cond.instanceMethod yX3_findPair, Cond.selects RX3 yX3_findPair yX3_findPair]
def wsX5_connect_r5 : List Cond := [Cond.code yX3_findPair cX3_findPair 11 none, Cond.fieldLink RX3 155 "ClosExchange$Network" "pairRule" "I", Cond.methodLink RX3 152 yX3_follow, Cond.instanceMethod yX3_follow, Cond.selects RX3 yX3_follow yX3_follow, Cond.code yX3_follow cX3_follow 9 none, Cond.fieldLink RX3 158 "ClosExchange$Router" "pairQ" "I", Cond.fieldLink RX3 14 "ClosExchange$Router" "chain" "LClosExchange$Row;", Cond.fieldLink RX3 113 "ClosExchange$Network" "outlets" "LClosExchange$Row;", Cond.methodLink RX3 47 yX4_get, Cond.methodLink RX3 164 yX4_set, Cond.instanceMethod yX4_set, Cond.selects RX4 yX4_set yX4_set, Cond.code yX4_set cX4_set 3 none, Cond.methodLink RX3 27 yX1_addCall, Cond.instanceMethod yX1_addCall, Cond.selects RX1 yX1_addCall yX1_addCall, Cond.code yX1_addCall cX1_addCall 3 none, Cond.methodLink RX1 97 yX4_set, Cond.methodLink RX3 33 yX3_settle, Cond.instanceMethod yX3_settle, Cond.selects RX3 yX3_settle yX3_settle, Cond.code yX3_settle cX3_settle 5 none, Cond.fieldLink RX3 87 "ClosExchange$Network" "moved" "I"]
def wsX5_connect_r6 : List Cond := [Cond.methodLink RX3 71 yX1_liftCall, Cond.instanceMethod yX1_liftCall, Cond.selects RX1 yX1_liftCall yX1_liftCall, Cond.code yX1_liftCall cX1_liftCall 3 none, Cond.methodLink RX1 104 yX1_boardOf, Cond.methodLink RX3 167 yX1_carryCall, Cond.instanceMethod yX1_carryCall, Cond.selects RX1 yX1_carryCall yX1_carryCall, Cond.code yX1_carryCall cX1_carryCall 3 none, Cond.methodLink RX5 76 yX5_recorded, Cond.instanceMethod yX5_recorded, Cond.selects RX5 yX5_recorded yX5_recorded, Cond.code yX5_recorded cX5_recorded 2 (some .int), Cond.fieldLink RX5 35 "ClosExchange" "history" "LClosExchange$History;", Cond.methodLink RX5 54 yX0_push, Cond.instanceMethod yX0_push, Cond.selects RX0 yX0_push yX0_push, Cond.initialized RX0, Cond.code yX0_push cX0_push 3 none, Cond.fieldLink RX0 18 "ClosExchange$History" "latest" "I", Cond.fieldLink RX0 30 "ClosExchange$History" "count" "I", Cond.methodLink RX0 33 Lib.Math.min.name, Cond.methodLink RX0 22 yX0_latestState, Cond.instanceMethod yX0_latestState]
def wsX5_connect_r7 : List Cond := [Cond.selects RX0 yX0_latestState yX0_latestState, Cond.code yX0_latestState cX0_latestState 1 (some (.object "ClosExchange$Network")), Cond.fieldLink RX0 11 "ClosExchange$History" "states" "[LClosExchange$Network;", Cond.methodLink RX0 26 yX1_copyFrom]
def wsX5_connect : List Cond := .code yX5_connect cX5_connect 3 (some .int) :: ((wsX5_connect_r1 ++ (wsX5_connect_r2 ++ (wsX5_connect_r3 ++ (wsX5_connect_r4 ++ (wsX5_connect_r5 ++ (wsX5_connect_r6 ++ wsX5_connect_r7)))))) ++ wsX50 ++ wsX10 ++ wsX40 ++ wsX30 ++ wsX00)
def wsX5_disconnect_r1 : List Cond := [Cond.fieldLink RX5 16 "ClosExchange" "before" "LClosExchange$Network;", Cond.fieldLink RX5 12 "ClosExchange" "network" "LClosExchange$Network;", Cond.fieldLink RX5 28 "ClosExchange" "router" "LClosExchange$Router;", Cond.methodLink RX5 69 yX1_copyFrom, Cond.instanceMethod yX1_copyFrom, Cond.selects RX1 yX1_copyFrom yX1_copyFrom, Cond.initialized RX1, Cond.code yX1_copyFrom cX1_copyFrom 2 none, Cond.fieldLink RX1 9 "ClosExchange$Network" "boards" "I", Cond.fieldLink RX1 15 "ClosExchange$Network" "lines" "I", Cond.fieldLink RX1 18 "ClosExchange$Network" "middles" "I", Cond.fieldLink RX1 21 "ClosExchange$Network" "service" "I", Cond.fieldLink RX1 48 "ClosExchange$Network" "choiceRule" "I", Cond.fieldLink RX1 51 "ClosExchange$Network" "pairRule" "I", Cond.fieldLink RX1 54 "ClosExchange$Network" "connected" "I", Cond.fieldLink RX1 57 "ClosExchange$Network" "ended" "I", Cond.fieldLink RX1 60 "ClosExchange$Network" "dropped" "I", Cond.fieldLink RX1 63 "ClosExchange$Network" "moved" "I", Cond.fieldLink RX1 29 "ClosExchange$Network" "numbers" "LClosExchange$Row;", Cond.fieldLink RX1 33 "ClosExchange$Network" "outlets" "LClosExchange$Row;", Cond.fieldLink RX1 36 "ClosExchange$Network" "vias" "LClosExchange$Row;", Cond.fieldLink RX1 39 "ClosExchange$Network" "inlets" "LClosExchange$Row;", Cond.fieldLink RX1 42 "ClosExchange$Network" "firstLinks" "LClosExchange$Row;", Cond.fieldLink RX1 45 "ClosExchange$Network" "lastLinks" "LClosExchange$Row;"]
def wsX5_disconnect_r2 : List Cond := [Cond.methodLink RX1 66 yX4_copyFrom, Cond.instanceMethod yX4_copyFrom, Cond.selects RX4 yX4_copyFrom yX4_copyFrom, Cond.initialized RX4, Cond.code yX4_copyFrom cX4_copyFrom 2 none, Cond.fieldLink RX4 15 "ClosExchange$Row" "cells" "[I", Cond.methodLink RX4 27 Lib.Math.min.name, Cond.static Lib.Math.min.name, Cond.initialized "java/lang/Math", Cond.code Lib.Math.min.name Lib.Math.min.code 2 (some .int), Cond.methodLink RX4 30 arraycopyName, Cond.native arraycopyName, Cond.static arraycopyName, Cond.initialized "java/lang/System", Cond.methodLink RX5 80 yX3_part, Cond.instanceMethod yX3_part, Cond.selects RX3 yX3_part yX3_part, Cond.initialized RX3, Cond.code yX3_part cX3_part 4 (some .int), Cond.fieldLink RX3 44 "ClosExchange$Network" "numbers" "LClosExchange$Row;", Cond.fieldLink RX3 54 "ClosExchange$Network" "ended" "I", Cond.methodLink RX3 37 yX1_isLine, Cond.instanceMethod yX1_isLine, Cond.selects RX1 yX1_isLine yX1_isLine]
def wsX5_disconnect_r3 : List Cond := [Cond.code yX1_isLine cX1_isLine 2 (some .boolean), Cond.methodLink RX3 41 yX1_isInletBusy, Cond.instanceMethod yX1_isInletBusy, Cond.selects RX1 yX1_isInletBusy yX1_isInletBusy, Cond.code yX1_isInletBusy cX1_isInletBusy 2 (some .boolean), Cond.methodLink RX1 77 yX4_get, Cond.instanceMethod yX4_get, Cond.selects RX4 yX4_get yX4_get, Cond.code yX4_get cX4_get 2 (some .int), Cond.methodLink RX3 47 yX4_get, Cond.methodLink RX3 51 yX1_removeCall, Cond.instanceMethod yX1_removeCall, Cond.selects RX1 yX1_removeCall yX1_removeCall, Cond.code yX1_removeCall cX1_removeCall 2 none, Cond.methodLink RX1 101 yX1_liftCall, Cond.instanceMethod yX1_liftCall, Cond.selects RX1 yX1_liftCall yX1_liftCall, Cond.code yX1_liftCall cX1_liftCall 3 none, Cond.methodLink RX1 104 yX1_boardOf, Cond.instanceMethod yX1_boardOf, Cond.selects RX1 yX1_boardOf yX1_boardOf, Cond.code yX1_boardOf cX1_boardOf 2 (some .int), Cond.static yX5_link, Cond.initialized RX5]
def wsX5_disconnect_r4 : List Cond := [Cond.code yX5_link cX5_link 2 (some .int), Cond.methodLink RX1 97 yX4_set, Cond.instanceMethod yX4_set, Cond.selects RX4 yX4_set yX4_set, Cond.code yX4_set cX4_set 3 none, Cond.methodLink RX5 76 yX5_recorded, Cond.instanceMethod yX5_recorded, Cond.selects RX5 yX5_recorded yX5_recorded, Cond.code yX5_recorded cX5_recorded 2 (some .int), Cond.fieldLink RX5 35 "ClosExchange" "history" "LClosExchange$History;", Cond.methodLink RX5 54 yX0_push, Cond.instanceMethod yX0_push, Cond.selects RX0 yX0_push yX0_push, Cond.initialized RX0, Cond.code yX0_push cX0_push 3 none, Cond.fieldLink RX0 18 "ClosExchange$History" "latest" "I", Cond.fieldLink RX0 30 "ClosExchange$History" "count" "I", Cond.methodLink RX0 33 Lib.Math.min.name, Cond.methodLink RX0 22 yX0_latestState, Cond.instanceMethod yX0_latestState, Cond.selects RX0 yX0_latestState yX0_latestState, Cond.code yX0_latestState cX0_latestState 1 (some (.object "ClosExchange$Network")), Cond.fieldLink RX0 11 "ClosExchange$History" "states" "[LClosExchange$Network;", Cond.methodLink RX0 26 yX1_copyFrom]
def wsX5_disconnect : List Cond := .code yX5_disconnect cX5_disconnect 2 (some .int) :: ((wsX5_disconnect_r1 ++ (wsX5_disconnect_r2 ++ (wsX5_disconnect_r3 ++ wsX5_disconnect_r4))) ++ wsX50 ++ wsX10 ++ wsX40 ++ wsX00)
def wsX5_takeOut_r1 : List Cond := [Cond.fieldLink RX5 16 "ClosExchange" "before" "LClosExchange$Network;", Cond.fieldLink RX5 12 "ClosExchange" "network" "LClosExchange$Network;", Cond.fieldLink RX5 28 "ClosExchange" "router" "LClosExchange$Router;", Cond.methodLink RX5 69 yX1_copyFrom, Cond.instanceMethod yX1_copyFrom, Cond.selects RX1 yX1_copyFrom yX1_copyFrom, Cond.initialized RX1, Cond.code yX1_copyFrom cX1_copyFrom 2 none, Cond.fieldLink RX1 9 "ClosExchange$Network" "boards" "I", Cond.fieldLink RX1 15 "ClosExchange$Network" "lines" "I", Cond.fieldLink RX1 18 "ClosExchange$Network" "middles" "I", Cond.fieldLink RX1 21 "ClosExchange$Network" "service" "I", Cond.fieldLink RX1 48 "ClosExchange$Network" "choiceRule" "I", Cond.fieldLink RX1 51 "ClosExchange$Network" "pairRule" "I", Cond.fieldLink RX1 54 "ClosExchange$Network" "connected" "I", Cond.fieldLink RX1 57 "ClosExchange$Network" "ended" "I", Cond.fieldLink RX1 60 "ClosExchange$Network" "dropped" "I", Cond.fieldLink RX1 63 "ClosExchange$Network" "moved" "I", Cond.fieldLink RX1 29 "ClosExchange$Network" "numbers" "LClosExchange$Row;", Cond.fieldLink RX1 33 "ClosExchange$Network" "outlets" "LClosExchange$Row;", Cond.fieldLink RX1 36 "ClosExchange$Network" "vias" "LClosExchange$Row;", Cond.fieldLink RX1 39 "ClosExchange$Network" "inlets" "LClosExchange$Row;", Cond.fieldLink RX1 42 "ClosExchange$Network" "firstLinks" "LClosExchange$Row;", Cond.fieldLink RX1 45 "ClosExchange$Network" "lastLinks" "LClosExchange$Row;"]
def wsX5_takeOut_r2 : List Cond := [Cond.methodLink RX1 66 yX4_copyFrom, Cond.instanceMethod yX4_copyFrom, Cond.selects RX4 yX4_copyFrom yX4_copyFrom, Cond.initialized RX4, Cond.code yX4_copyFrom cX4_copyFrom 2 none, Cond.fieldLink RX4 15 "ClosExchange$Row" "cells" "[I", Cond.methodLink RX4 27 Lib.Math.min.name, Cond.static Lib.Math.min.name, Cond.initialized "java/lang/Math", Cond.code Lib.Math.min.name Lib.Math.min.code 2 (some .int), Cond.methodLink RX4 30 arraycopyName, Cond.native arraycopyName, Cond.static arraycopyName, Cond.initialized "java/lang/System", Cond.methodLink RX5 84 yX3_retire, Cond.instanceMethod yX3_retire, Cond.selects RX3 yX3_retire yX3_retire, Cond.initialized RX3, Cond.code yX3_retire cX3_retire 4 (some .int), Cond.fieldLink RX3 61 "ClosExchange$Network" "service" "I", Cond.fieldLink RX3 68 "ClosExchange$Network" "vias" "LClosExchange$Row;", Cond.methodLink RX3 58 yX1_isMiddle, Cond.instanceMethod yX1_isMiddle, Cond.selects RX1 yX1_isMiddle yX1_isMiddle]
def wsX5_takeOut_r3 : List Cond := [Cond.code yX1_isMiddle cX1_isMiddle 2 (some .boolean), Cond.static yX5_hasBit, Cond.initialized RX5, Cond.code yX5_hasBit cX5_hasBit 2 (some .boolean), Cond.methodLink RX3 47 yX4_get, Cond.instanceMethod yX4_get, Cond.selects RX4 yX4_get yX4_get, Cond.code yX4_get cX4_get 2 (some .int), Cond.methodLink RX3 71 yX1_liftCall, Cond.instanceMethod yX1_liftCall, Cond.selects RX1 yX1_liftCall yX1_liftCall, Cond.code yX1_liftCall cX1_liftCall 3 none, Cond.methodLink RX1 77 yX4_get, Cond.methodLink RX1 104 yX1_boardOf, Cond.instanceMethod yX1_boardOf, Cond.selects RX1 yX1_boardOf yX1_boardOf, Cond.code yX1_boardOf cX1_boardOf 2 (some .int), Cond.static yX5_link, Cond.code yX5_link cX5_link 2 (some .int), Cond.methodLink RX1 97 yX4_set, Cond.instanceMethod yX4_set, Cond.selects RX4 yX4_set yX4_set, Cond.code yX4_set cX4_set 3 none, Cond.methodLink RX3 74 yX3_reroute]
def wsX5_takeOut_r4 : List Cond := [Cond.instanceMethod yX3_reroute, Cond.selects RX3 yX3_reroute yX3_reroute, Cond.code yX3_reroute cX3_reroute 6 (some .int), Cond.fieldLink RX3 113 "ClosExchange$Network" "outlets" "LClosExchange$Row;", Cond.fieldLink RX3 87 "ClosExchange$Network" "moved" "I", Cond.fieldLink RX3 116 "ClosExchange$Network" "dropped" "I", Cond.methodLink RX3 110 yX1_firstLifted, Cond.instanceMethod yX1_firstLifted, Cond.selects RX1 yX1_firstLifted yX1_firstLifted, Cond.code yX1_firstLifted cX1_firstLifted 3 (some .int), Cond.methodLink RX1 85 yX1_isInletBusy, Cond.instanceMethod yX1_isInletBusy, Cond.selects RX1 yX1_isInletBusy yX1_isInletBusy, Cond.code yX1_isInletBusy cX1_isInletBusy 2 (some .boolean), Cond.methodLink RX3 107 yX3_findWay, Cond.instanceMethod yX3_findWay, Cond.selects RX3 yX3_findWay yX3_findWay, Cond.code yX3_findWay cX3_findWay 7 (some .int), Cond.fieldLink RX3 119 "ClosExchange$Router" "chainLength" "I", Cond.fieldLink RX3 125 "ClosExchange$Network" "firstLinks" "LClosExchange$Row;", Cond.fieldLink RX3 132 "ClosExchange$Network" "lastLinks" "LClosExchange$Row;", Cond.fieldLink RX3 143 "ClosExchange$Router" "pairP" "I", Cond.methodLink RX3 122 yX1_boardOf, Cond.methodLink RX3 128 yX1_freeOnLinks]
def wsX5_takeOut_r5 : List Cond := [Cond.instanceMethod yX1_freeOnLinks, Cond.selects RX1 yX1_freeOnLinks yX1_freeOnLinks, Cond.code yX1_freeOnLinks cX1_freeOnLinks 5 (some .int), Cond.methodLink RX3 135 yX3_choose, Cond.instanceMethod yX3_choose, Cond.selects RX3 yX3_choose yX3_choose, Cond.code yX3_choose cX3_choose 8 (some .int), Cond.fieldLink RX3 146 "ClosExchange$Network" "choiceRule" "I", Cond.methodLink RX3 149 yX1_loadOf, Cond.instanceMethod yX1_loadOf, Cond.selects RX1 yX1_loadOf yX1_loadOf, Cond.code yX1_loadOf cX1_loadOf 4 (some .int), Cond.methodLink RX3 139 yX3_findPair, Cond.instanceMethod yX3_findPair, Cond.selects RX3 yX3_findPair yX3_findPair, Cond.code yX3_findPair cX3_findPair 11 none, Cond.fieldLink RX3 155 "ClosExchange$Network" "pairRule" "I", Cond.methodLink RX3 152 yX3_follow, Cond.instanceMethod yX3_follow, Cond.selects RX3 yX3_follow yX3_follow, Cond.code yX3_follow cX3_follow 9 none, Cond.fieldLink RX3 158 "ClosExchange$Router" "pairQ" "I", Cond.fieldLink RX3 14 "ClosExchange$Router" "chain" "LClosExchange$Row;", Cond.methodLink RX3 164 yX4_set]
def wsX5_takeOut_r6 : List Cond := [Cond.methodLink RX3 51 yX1_removeCall, Cond.instanceMethod yX1_removeCall, Cond.selects RX1 yX1_removeCall yX1_removeCall, Cond.code yX1_removeCall cX1_removeCall 2 none, Cond.methodLink RX1 101 yX1_liftCall, Cond.methodLink RX3 33 yX3_settle, Cond.instanceMethod yX3_settle, Cond.selects RX3 yX3_settle yX3_settle, Cond.code yX3_settle cX3_settle 5 none, Cond.methodLink RX3 167 yX1_carryCall, Cond.instanceMethod yX1_carryCall, Cond.selects RX1 yX1_carryCall yX1_carryCall, Cond.code yX1_carryCall cX1_carryCall 3 none, Cond.methodLink RX5 76 yX5_recorded, Cond.instanceMethod yX5_recorded, Cond.selects RX5 yX5_recorded yX5_recorded, Cond.code yX5_recorded cX5_recorded 2 (some .int), Cond.fieldLink RX5 35 "ClosExchange" "history" "LClosExchange$History;", Cond.methodLink RX5 54 yX0_push, Cond.instanceMethod yX0_push, Cond.selects RX0 yX0_push yX0_push, Cond.initialized RX0, Cond.code yX0_push cX0_push 3 none, Cond.fieldLink RX0 18 "ClosExchange$History" "latest" "I"]
def wsX5_takeOut_r7 : List Cond := [Cond.fieldLink RX0 30 "ClosExchange$History" "count" "I", Cond.methodLink RX0 33 Lib.Math.min.name, Cond.methodLink RX0 22 yX0_latestState, Cond.instanceMethod yX0_latestState, Cond.selects RX0 yX0_latestState yX0_latestState, Cond.code yX0_latestState cX0_latestState 1 (some (.object "ClosExchange$Network")), Cond.fieldLink RX0 11 "ClosExchange$History" "states" "[LClosExchange$Network;", Cond.methodLink RX0 26 yX1_copyFrom]
def wsX5_takeOut : List Cond := .code yX5_takeOut cX5_takeOut 2 (some .int) :: ((wsX5_takeOut_r1 ++ (wsX5_takeOut_r2 ++ (wsX5_takeOut_r3 ++ (wsX5_takeOut_r4 ++ (wsX5_takeOut_r5 ++ (wsX5_takeOut_r6 ++ wsX5_takeOut_r7)))))) ++ wsX50 ++ wsX10 ++ wsX40 ++ wsX30 ++ wsX00)
def wsX5_putBack_r1 : List Cond := [Cond.fieldLink RX5 16 "ClosExchange" "before" "LClosExchange$Network;", Cond.fieldLink RX5 12 "ClosExchange" "network" "LClosExchange$Network;", Cond.fieldLink RX5 28 "ClosExchange" "router" "LClosExchange$Router;", Cond.methodLink RX5 69 yX1_copyFrom, Cond.instanceMethod yX1_copyFrom, Cond.selects RX1 yX1_copyFrom yX1_copyFrom, Cond.initialized RX1, Cond.code yX1_copyFrom cX1_copyFrom 2 none, Cond.fieldLink RX1 9 "ClosExchange$Network" "boards" "I", Cond.fieldLink RX1 15 "ClosExchange$Network" "lines" "I", Cond.fieldLink RX1 18 "ClosExchange$Network" "middles" "I", Cond.fieldLink RX1 21 "ClosExchange$Network" "service" "I", Cond.fieldLink RX1 48 "ClosExchange$Network" "choiceRule" "I", Cond.fieldLink RX1 51 "ClosExchange$Network" "pairRule" "I", Cond.fieldLink RX1 54 "ClosExchange$Network" "connected" "I", Cond.fieldLink RX1 57 "ClosExchange$Network" "ended" "I", Cond.fieldLink RX1 60 "ClosExchange$Network" "dropped" "I", Cond.fieldLink RX1 63 "ClosExchange$Network" "moved" "I", Cond.fieldLink RX1 29 "ClosExchange$Network" "numbers" "LClosExchange$Row;", Cond.fieldLink RX1 33 "ClosExchange$Network" "outlets" "LClosExchange$Row;", Cond.fieldLink RX1 36 "ClosExchange$Network" "vias" "LClosExchange$Row;", Cond.fieldLink RX1 39 "ClosExchange$Network" "inlets" "LClosExchange$Row;", Cond.fieldLink RX1 42 "ClosExchange$Network" "firstLinks" "LClosExchange$Row;", Cond.fieldLink RX1 45 "ClosExchange$Network" "lastLinks" "LClosExchange$Row;"]
def wsX5_putBack_r2 : List Cond := [Cond.methodLink RX1 66 yX4_copyFrom, Cond.instanceMethod yX4_copyFrom, Cond.selects RX4 yX4_copyFrom yX4_copyFrom, Cond.initialized RX4, Cond.code yX4_copyFrom cX4_copyFrom 2 none, Cond.fieldLink RX4 15 "ClosExchange$Row" "cells" "[I", Cond.methodLink RX4 27 Lib.Math.min.name, Cond.static Lib.Math.min.name, Cond.initialized "java/lang/Math", Cond.code Lib.Math.min.name Lib.Math.min.code 2 (some .int), Cond.methodLink RX4 30 arraycopyName, Cond.native arraycopyName, Cond.static arraycopyName, Cond.initialized "java/lang/System", Cond.methodLink RX5 87 yX3_revive, Cond.instanceMethod yX3_revive, Cond.selects RX3 yX3_revive yX3_revive, Cond.initialized RX3, Cond.code yX3_revive cX3_revive 3 (some .int), Cond.fieldLink RX3 61 "ClosExchange$Network" "service" "I", Cond.methodLink RX3 58 yX1_isMiddle, Cond.instanceMethod yX1_isMiddle, Cond.selects RX1 yX1_isMiddle yX1_isMiddle, Cond.code yX1_isMiddle cX1_isMiddle 2 (some .boolean)]
def wsX5_putBack_r3 : List Cond := [Cond.static yX5_hasBit, Cond.initialized RX5, Cond.code yX5_hasBit cX5_hasBit 2 (some .boolean), Cond.methodLink RX3 78 yJ6_bitCount_0f7a4, Cond.static yJ6_bitCount_0f7a4, Cond.initialized RJ6, Cond.code yJ6_bitCount_0f7a4 cJ6_bitCount_0f7a4 1 (some .int), Cond.constant RJ6 265 (1431655765), Cond.constant RJ6 266 (858993459), Cond.constant RJ6 267 (252645135), Cond.methodLink RX5 76 yX5_recorded, Cond.instanceMethod yX5_recorded, Cond.selects RX5 yX5_recorded yX5_recorded, Cond.code yX5_recorded cX5_recorded 2 (some .int), Cond.fieldLink RX5 35 "ClosExchange" "history" "LClosExchange$History;", Cond.methodLink RX5 54 yX0_push, Cond.instanceMethod yX0_push, Cond.selects RX0 yX0_push yX0_push, Cond.initialized RX0, Cond.code yX0_push cX0_push 3 none, Cond.fieldLink RX0 18 "ClosExchange$History" "latest" "I", Cond.fieldLink RX0 30 "ClosExchange$History" "count" "I", Cond.methodLink RX0 33 Lib.Math.min.name, Cond.methodLink RX0 22 yX0_latestState]
def wsX5_putBack_r4 : List Cond := [Cond.instanceMethod yX0_latestState, Cond.selects RX0 yX0_latestState yX0_latestState, Cond.code yX0_latestState cX0_latestState 1 (some (.object "ClosExchange$Network")), Cond.fieldLink RX0 11 "ClosExchange$History" "states" "[LClosExchange$Network;", Cond.methodLink RX0 26 yX1_copyFrom]
def wsX5_putBack : List Cond := .code yX5_putBack cX5_putBack 2 (some .int) :: ((wsX5_putBack_r1 ++ (wsX5_putBack_r2 ++ (wsX5_putBack_r3 ++ wsX5_putBack_r4))) ++ wsX50 ++ wsX10 ++ wsX40 ++ wsX00)
def wsX5_pack_r1 : List Cond := [Cond.fieldLink RX5 16 "ClosExchange" "before" "LClosExchange$Network;", Cond.fieldLink RX5 12 "ClosExchange" "network" "LClosExchange$Network;", Cond.fieldLink RX5 28 "ClosExchange" "router" "LClosExchange$Router;", Cond.methodLink RX5 69 yX1_copyFrom, Cond.instanceMethod yX1_copyFrom, Cond.selects RX1 yX1_copyFrom yX1_copyFrom, Cond.initialized RX1, Cond.code yX1_copyFrom cX1_copyFrom 2 none, Cond.fieldLink RX1 9 "ClosExchange$Network" "boards" "I", Cond.fieldLink RX1 15 "ClosExchange$Network" "lines" "I", Cond.fieldLink RX1 18 "ClosExchange$Network" "middles" "I", Cond.fieldLink RX1 21 "ClosExchange$Network" "service" "I", Cond.fieldLink RX1 48 "ClosExchange$Network" "choiceRule" "I", Cond.fieldLink RX1 51 "ClosExchange$Network" "pairRule" "I", Cond.fieldLink RX1 54 "ClosExchange$Network" "connected" "I", Cond.fieldLink RX1 57 "ClosExchange$Network" "ended" "I", Cond.fieldLink RX1 60 "ClosExchange$Network" "dropped" "I", Cond.fieldLink RX1 63 "ClosExchange$Network" "moved" "I", Cond.fieldLink RX1 29 "ClosExchange$Network" "numbers" "LClosExchange$Row;", Cond.fieldLink RX1 33 "ClosExchange$Network" "outlets" "LClosExchange$Row;", Cond.fieldLink RX1 36 "ClosExchange$Network" "vias" "LClosExchange$Row;", Cond.fieldLink RX1 39 "ClosExchange$Network" "inlets" "LClosExchange$Row;", Cond.fieldLink RX1 42 "ClosExchange$Network" "firstLinks" "LClosExchange$Row;", Cond.fieldLink RX1 45 "ClosExchange$Network" "lastLinks" "LClosExchange$Row;"]
def wsX5_pack_r2 : List Cond := [Cond.methodLink RX1 66 yX4_copyFrom, Cond.instanceMethod yX4_copyFrom, Cond.selects RX4 yX4_copyFrom yX4_copyFrom, Cond.initialized RX4, Cond.code yX4_copyFrom cX4_copyFrom 2 none, Cond.fieldLink RX4 15 "ClosExchange$Row" "cells" "[I", Cond.methodLink RX4 27 Lib.Math.min.name, Cond.static Lib.Math.min.name, Cond.initialized "java/lang/Math", Cond.code Lib.Math.min.name Lib.Math.min.code 2 (some .int), Cond.methodLink RX4 30 arraycopyName, Cond.native arraycopyName, Cond.static arraycopyName, Cond.initialized "java/lang/System", Cond.methodLink RX5 90 yX3_repack, Cond.instanceMethod yX3_repack, Cond.selects RX3 yX3_repack yX3_repack, Cond.initialized RX3, Cond.code yX3_repack cX3_repack 5 (some .int), Cond.fieldLink RX3 61 "ClosExchange$Network" "service" "I", Cond.fieldLink RX3 87 "ClosExchange$Network" "moved" "I", Cond.fieldLink RX3 20 "ClosExchange$Router" "formerVias" "LClosExchange$Row;", Cond.fieldLink RX3 68 "ClosExchange$Network" "vias" "LClosExchange$Row;", Cond.methodLink RX3 83 yX1_countCalls]
def wsX5_pack_r3 : List Cond := [Cond.instanceMethod yX1_countCalls, Cond.selects RX1 yX1_countCalls yX1_countCalls, Cond.code yX1_countCalls cX1_countCalls 3 (some .int), Cond.methodLink RX1 77 yX4_get, Cond.instanceMethod yX4_get, Cond.selects RX4 yX4_get yX4_get, Cond.code yX4_get cX4_get 2 (some .int), Cond.methodLink RX3 90 yX1_fullestBoard, Cond.instanceMethod yX1_fullestBoard, Cond.selects RX1 yX1_fullestBoard yX1_fullestBoard, Cond.code yX1_fullestBoard cX1_fullestBoard 6 (some .int), Cond.methodLink RX1 92 Lib.Math.max.name, Cond.static Lib.Math.max.name, Cond.code Lib.Math.max.name Lib.Math.max.code 2 (some .int), Cond.methodLink RX1 85 yX1_isInletBusy, Cond.instanceMethod yX1_isInletBusy, Cond.selects RX1 yX1_isInletBusy yX1_isInletBusy, Cond.code yX1_isInletBusy cX1_isInletBusy 2 (some .boolean), Cond.methodLink RX1 89 yX1_isOutletBusy, Cond.instanceMethod yX1_isOutletBusy, Cond.selects RX1 yX1_isOutletBusy yX1_isOutletBusy, Cond.code yX1_isOutletBusy cX1_isOutletBusy 2 (some .boolean), Cond.methodLink RX3 93 yX3_lowestBits, Cond.static yX3_lowestBits]
def wsX5_pack_r4 : List Cond := [Cond.code yX3_lowestBits cX3_lowestBits 5 (some .int), Cond.static yX5_hasBit, Cond.initialized RX5, Cond.code yX5_hasBit cX5_hasBit 2 (some .boolean), Cond.methodLink RX3 97 yX4_copyFrom, Cond.methodLink RX3 71 yX1_liftCall, Cond.instanceMethod yX1_liftCall, Cond.selects RX1 yX1_liftCall yX1_liftCall, Cond.code yX1_liftCall cX1_liftCall 3 none, Cond.methodLink RX1 104 yX1_boardOf, Cond.instanceMethod yX1_boardOf, Cond.selects RX1 yX1_boardOf yX1_boardOf, Cond.code yX1_boardOf cX1_boardOf 2 (some .int), Cond.static yX5_link, Cond.code yX5_link cX5_link 2 (some .int), Cond.methodLink RX1 97 yX4_set, Cond.instanceMethod yX4_set, Cond.selects RX4 yX4_set yX4_set, Cond.code yX4_set cX4_set 3 none, Cond.methodLink RX3 74 yX3_reroute, Cond.instanceMethod yX3_reroute, Cond.selects RX3 yX3_reroute yX3_reroute, Cond.code yX3_reroute cX3_reroute 6 (some .int), Cond.fieldLink RX3 113 "ClosExchange$Network" "outlets" "LClosExchange$Row;"]
def wsX5_pack_r5 : List Cond := [Cond.fieldLink RX3 116 "ClosExchange$Network" "dropped" "I", Cond.methodLink RX3 110 yX1_firstLifted, Cond.instanceMethod yX1_firstLifted, Cond.selects RX1 yX1_firstLifted yX1_firstLifted, Cond.code yX1_firstLifted cX1_firstLifted 3 (some .int), Cond.methodLink RX3 47 yX4_get, Cond.methodLink RX3 107 yX3_findWay, Cond.instanceMethod yX3_findWay, Cond.selects RX3 yX3_findWay yX3_findWay, Cond.code yX3_findWay cX3_findWay 7 (some .int), Cond.fieldLink RX3 119 "ClosExchange$Router" "chainLength" "I", Cond.fieldLink RX3 125 "ClosExchange$Network" "firstLinks" "LClosExchange$Row;", Cond.fieldLink RX3 132 "ClosExchange$Network" "lastLinks" "LClosExchange$Row;", Cond.fieldLink RX3 143 "ClosExchange$Router" "pairP" "I", Cond.methodLink RX3 122 yX1_boardOf, Cond.methodLink RX3 128 yX1_freeOnLinks, Cond.instanceMethod yX1_freeOnLinks, Cond.selects RX1 yX1_freeOnLinks yX1_freeOnLinks, Cond.code yX1_freeOnLinks cX1_freeOnLinks 5 (some .int), Cond.methodLink RX3 135 yX3_choose, Cond.instanceMethod yX3_choose, Cond.selects RX3 yX3_choose yX3_choose, Cond.code yX3_choose cX3_choose 8 (some .int), Cond.fieldLink RX3 146 "ClosExchange$Network" "choiceRule" "I"]
def wsX5_pack_r6 : List Cond := [Cond.methodLink RX3 149 yX1_loadOf, Cond.instanceMethod yX1_loadOf, Cond.selects RX1 yX1_loadOf yX1_loadOf, Cond.code yX1_loadOf cX1_loadOf 4 (some .int), Cond.methodLink RX3 139 yX3_findPair, Cond.instanceMethod yX3_findPair, Cond.selects RX3 yX3_findPair yX3_findPair, Cond.code yX3_findPair cX3_findPair 11 none, Cond.fieldLink RX3 155 "ClosExchange$Network" "pairRule" "I", Cond.methodLink RX3 152 yX3_follow, Cond.instanceMethod yX3_follow, Cond.selects RX3 yX3_follow yX3_follow, Cond.code yX3_follow cX3_follow 9 none, Cond.fieldLink RX3 158 "ClosExchange$Router" "pairQ" "I", Cond.fieldLink RX3 14 "ClosExchange$Router" "chain" "LClosExchange$Row;", Cond.methodLink RX3 164 yX4_set, Cond.methodLink RX3 51 yX1_removeCall, Cond.instanceMethod yX1_removeCall, Cond.selects RX1 yX1_removeCall yX1_removeCall, Cond.code yX1_removeCall cX1_removeCall 2 none, Cond.methodLink RX1 101 yX1_liftCall, Cond.methodLink RX3 33 yX3_settle, Cond.instanceMethod yX3_settle, Cond.selects RX3 yX3_settle yX3_settle]
def wsX5_pack_r7 : List Cond := [Cond.code yX3_settle cX3_settle 5 none, Cond.methodLink RX3 167 yX1_carryCall, Cond.instanceMethod yX1_carryCall, Cond.selects RX1 yX1_carryCall yX1_carryCall, Cond.code yX1_carryCall cX1_carryCall 3 none, Cond.methodLink RX3 101 yX3_countChanged, Cond.instanceMethod yX3_countChanged, Cond.selects RX3 yX3_countChanged yX3_countChanged, Cond.code yX3_countChanged cX3_countChanged 4 (some .int), Cond.methodLink RX5 76 yX5_recorded, Cond.instanceMethod yX5_recorded, Cond.selects RX5 yX5_recorded yX5_recorded, Cond.code yX5_recorded cX5_recorded 2 (some .int), Cond.fieldLink RX5 35 "ClosExchange" "history" "LClosExchange$History;", Cond.methodLink RX5 54 yX0_push, Cond.instanceMethod yX0_push, Cond.selects RX0 yX0_push yX0_push, Cond.initialized RX0, Cond.code yX0_push cX0_push 3 none, Cond.fieldLink RX0 18 "ClosExchange$History" "latest" "I", Cond.fieldLink RX0 30 "ClosExchange$History" "count" "I", Cond.methodLink RX0 33 Lib.Math.min.name, Cond.methodLink RX0 22 yX0_latestState, Cond.instanceMethod yX0_latestState]
def wsX5_pack_r8 : List Cond := [Cond.selects RX0 yX0_latestState yX0_latestState, Cond.code yX0_latestState cX0_latestState 1 (some (.object "ClosExchange$Network")), Cond.fieldLink RX0 11 "ClosExchange$History" "states" "[LClosExchange$Network;", Cond.methodLink RX0 26 yX1_copyFrom]
def wsX5_pack : List Cond := .code yX5_pack cX5_pack 1 (some .int) :: ((wsX5_pack_r1 ++ (wsX5_pack_r2 ++ (wsX5_pack_r3 ++ (wsX5_pack_r4 ++ (wsX5_pack_r5 ++ (wsX5_pack_r6 ++ (wsX5_pack_r7 ++ wsX5_pack_r8))))))) ++ wsX50 ++ wsX10 ++ wsX40 ++ wsX30 ++ wsX00)
def wsX5_type : List Cond := .code yX5_type cX5_type 2 (some .int) :: ([.fieldLink RX5 42 "ClosExchange" "text" "LClosExchange$OrderText;", .methodLink RX5 94 yX2_append, .instanceMethod yX2_append, .selects RX2 yX2_append yX2_append, .initialized RX2, .code yX2_append cX2_append 2 (some .int), .fieldLink RX2 20 "ClosExchange$OrderText" "length" "I", .fieldLink RX2 14 "ClosExchange$OrderText" "signs" "LClosExchange$Row;", .methodLink RX2 24 yX4_set, .instanceMethod yX4_set, .selects RX4 yX4_set yX4_set, .initialized RX4, .code yX4_set cX4_set 3 none, .fieldLink RX4 15 "ClosExchange$Row" "cells" "[I"] ++ wsX50 ++ wsX20 ++ wsX40)
def wsX5_clearText : List Cond := .code yX5_clearText cX5_clearText 2 (some .int) :: ([.fieldLink RX5 42 "ClosExchange" "text" "LClosExchange$OrderText;", .fieldLink RX5 97 "ClosExchange$OrderText" "length" "I"] ++ wsX50 ++ wsX20)
def wsX5_obey_r1 : List Cond := [Cond.fieldLink RX5 42 "ClosExchange" "text" "LClosExchange$OrderText;", Cond.fieldLink RX5 219 "ClosExchange$OrderText" "kind" "I", Cond.fieldLink RX5 28 "ClosExchange" "router" "LClosExchange$Router;", Cond.fieldLink RX5 12 "ClosExchange" "network" "LClosExchange$Network;", Cond.fieldLink RX5 222 "ClosExchange$OrderText" "first" "I", Cond.fieldLink RX5 225 "ClosExchange$OrderText" "second" "I", Cond.methodLink RX5 72 yX3_join, Cond.instanceMethod yX3_join, Cond.selects RX3 yX3_join yX3_join, Cond.initialized RX3, Cond.code yX3_join cX3_join 5 (some .int), Cond.methodLink RX3 23 yX3_tryCall, Cond.instanceMethod yX3_tryCall, Cond.selects RX3 yX3_tryCall yX3_tryCall, Cond.code yX3_tryCall cX3_tryCall 4 (some .int), Cond.methodLink RX3 37 yX1_isLine, Cond.instanceMethod yX1_isLine, Cond.selects RX1 yX1_isLine yX1_isLine, Cond.initialized RX1, Cond.code yX1_isLine cX1_isLine 2 (some .boolean), Cond.fieldLink RX1 9 "ClosExchange$Network" "boards" "I", Cond.fieldLink RX1 15 "ClosExchange$Network" "lines" "I", Cond.methodLink RX3 41 yX1_isInletBusy, Cond.instanceMethod yX1_isInletBusy]
def wsX5_obey_r2 : List Cond := [Cond.selects RX1 yX1_isInletBusy yX1_isInletBusy, Cond.code yX1_isInletBusy cX1_isInletBusy 2 (some .boolean), Cond.fieldLink RX1 29 "ClosExchange$Network" "numbers" "LClosExchange$Row;", Cond.methodLink RX1 77 yX4_get, Cond.instanceMethod yX4_get, Cond.selects RX4 yX4_get yX4_get, Cond.initialized RX4, Cond.code yX4_get cX4_get 2 (some .int), Cond.fieldLink RX4 15 "ClosExchange$Row" "cells" "[I", Cond.methodLink RX3 104 yX1_isOutletBusy, Cond.instanceMethod yX1_isOutletBusy, Cond.selects RX1 yX1_isOutletBusy yX1_isOutletBusy, Cond.code yX1_isOutletBusy cX1_isOutletBusy 2 (some .boolean), Cond.fieldLink RX1 39 "ClosExchange$Network" "inlets" "LClosExchange$Row;", Cond.methodLink RX3 107 yX3_findWay, Cond.instanceMethod yX3_findWay, Cond.selects RX3 yX3_findWay yX3_findWay, Cond.code yX3_findWay cX3_findWay 7 (some .int), Cond.fieldLink RX3 119 "ClosExchange$Router" "chainLength" "I", Cond.fieldLink RX3 125 "ClosExchange$Network" "firstLinks" "LClosExchange$Row;", Cond.fieldLink RX3 132 "ClosExchange$Network" "lastLinks" "LClosExchange$Row;", Cond.fieldLink RX3 143 "ClosExchange$Router" "pairP" "I", Cond.methodLink RX3 122 yX1_boardOf, Cond.instanceMethod yX1_boardOf]
def wsX5_obey_r3 : List Cond := [Cond.selects RX1 yX1_boardOf yX1_boardOf, Cond.code yX1_boardOf cX1_boardOf 2 (some .int), Cond.methodLink RX3 128 yX1_freeOnLinks, Cond.instanceMethod yX1_freeOnLinks, Cond.selects RX1 yX1_freeOnLinks yX1_freeOnLinks, Cond.code yX1_freeOnLinks cX1_freeOnLinks 5 (some .int), Cond.fieldLink RX1 18 "ClosExchange$Network" "middles" "I", Cond.fieldLink RX1 21 "ClosExchange$Network" "service" "I", Cond.static yX5_link, Cond.initialized RX5, Cond.code yX5_link cX5_link 2 (some .int), Cond.methodLink RX3 135 yX3_choose, Cond.instanceMethod yX3_choose, Cond.selects RX3 yX3_choose yX3_choose, Cond.code yX3_choose cX3_choose 8 (some .int), Cond.fieldLink RX3 146 "ClosExchange$Network" "choiceRule" "I", Cond.static yX5_hasBit, Cond.code yX5_hasBit cX5_hasBit 2 (some .boolean), Cond.methodLink RX3 149 yX1_loadOf, Cond.instanceMethod yX1_loadOf, Cond.selects RX1 yX1_loadOf yX1_loadOf, Cond.code yX1_loadOf cX1_loadOf 4 (some .int), Cond.fieldLink RX1 42 "ClosExchange$Network" "firstLinks" "LClosExchange$Row;", Cond.methodLink RX3 139 yX3_findPair]
def wsX5_obey_r4 : List Cond := [Cond.instanceMethod yX3_findPair, Cond.selects RX3 yX3_findPair yX3_findPair, Cond.code yX3_findPair cX3_findPair 11 none, Cond.fieldLink RX3 155 "ClosExchange$Network" "pairRule" "I", Cond.methodLink RX3 152 yX3_follow, Cond.instanceMethod yX3_follow, Cond.selects RX3 yX3_follow yX3_follow, Cond.code yX3_follow cX3_follow 9 none, Cond.fieldLink RX3 158 "ClosExchange$Router" "pairQ" "I", Cond.fieldLink RX3 14 "ClosExchange$Router" "chain" "LClosExchange$Row;", Cond.fieldLink RX3 113 "ClosExchange$Network" "outlets" "LClosExchange$Row;", Cond.methodLink RX3 47 yX4_get, Cond.methodLink RX3 164 yX4_set, Cond.instanceMethod yX4_set, Cond.selects RX4 yX4_set yX4_set, Cond.code yX4_set cX4_set 3 none, Cond.methodLink RX3 27 yX1_addCall, Cond.instanceMethod yX1_addCall, Cond.selects RX1 yX1_addCall yX1_addCall, Cond.code yX1_addCall cX1_addCall 3 none, Cond.fieldLink RX1 54 "ClosExchange$Network" "connected" "I", Cond.fieldLink RX1 33 "ClosExchange$Network" "outlets" "LClosExchange$Row;", Cond.methodLink RX1 97 yX4_set, Cond.methodLink RX3 33 yX3_settle]
def wsX5_obey_r5 : List Cond := [Cond.instanceMethod yX3_settle, Cond.selects RX3 yX3_settle yX3_settle, Cond.code yX3_settle cX3_settle 5 none, Cond.fieldLink RX3 87 "ClosExchange$Network" "moved" "I", Cond.methodLink RX3 71 yX1_liftCall, Cond.instanceMethod yX1_liftCall, Cond.selects RX1 yX1_liftCall yX1_liftCall, Cond.code yX1_liftCall cX1_liftCall 3 none, Cond.fieldLink RX1 36 "ClosExchange$Network" "vias" "LClosExchange$Row;", Cond.fieldLink RX1 45 "ClosExchange$Network" "lastLinks" "LClosExchange$Row;", Cond.methodLink RX1 104 yX1_boardOf, Cond.methodLink RX3 167 yX1_carryCall, Cond.instanceMethod yX1_carryCall, Cond.selects RX1 yX1_carryCall yX1_carryCall, Cond.code yX1_carryCall cX1_carryCall 3 none, Cond.methodLink RX5 80 yX3_part, Cond.instanceMethod yX3_part, Cond.selects RX3 yX3_part yX3_part, Cond.code yX3_part cX3_part 4 (some .int), Cond.fieldLink RX3 44 "ClosExchange$Network" "numbers" "LClosExchange$Row;", Cond.fieldLink RX3 54 "ClosExchange$Network" "ended" "I", Cond.methodLink RX3 51 yX1_removeCall, Cond.instanceMethod yX1_removeCall, Cond.selects RX1 yX1_removeCall yX1_removeCall]
def wsX5_obey_r6 : List Cond := [Cond.code yX1_removeCall cX1_removeCall 2 none, Cond.methodLink RX1 101 yX1_liftCall, Cond.methodLink RX5 84 yX3_retire, Cond.instanceMethod yX3_retire, Cond.selects RX3 yX3_retire yX3_retire, Cond.code yX3_retire cX3_retire 4 (some .int), Cond.fieldLink RX3 61 "ClosExchange$Network" "service" "I", Cond.fieldLink RX3 68 "ClosExchange$Network" "vias" "LClosExchange$Row;", Cond.methodLink RX3 58 yX1_isMiddle, Cond.instanceMethod yX1_isMiddle, Cond.selects RX1 yX1_isMiddle yX1_isMiddle, Cond.code yX1_isMiddle cX1_isMiddle 2 (some .boolean), Cond.methodLink RX3 74 yX3_reroute, Cond.instanceMethod yX3_reroute, Cond.selects RX3 yX3_reroute yX3_reroute, Cond.code yX3_reroute cX3_reroute 6 (some .int), Cond.fieldLink RX3 116 "ClosExchange$Network" "dropped" "I", Cond.methodLink RX3 110 yX1_firstLifted, Cond.instanceMethod yX1_firstLifted, Cond.selects RX1 yX1_firstLifted yX1_firstLifted, Cond.code yX1_firstLifted cX1_firstLifted 3 (some .int), Cond.methodLink RX1 85 yX1_isInletBusy, Cond.methodLink RX5 87 yX3_revive, Cond.instanceMethod yX3_revive]
def wsX5_obey_r7 : List Cond := [Cond.selects RX3 yX3_revive yX3_revive, Cond.code yX3_revive cX3_revive 3 (some .int), Cond.methodLink RX3 78 yJ6_bitCount_0f7a4, Cond.static yJ6_bitCount_0f7a4, Cond.initialized RJ6, Cond.code yJ6_bitCount_0f7a4 cJ6_bitCount_0f7a4 1 (some .int), Cond.constant RJ6 265 (1431655765), Cond.constant RJ6 266 (858993459), Cond.constant RJ6 267 (252645135), Cond.methodLink RX5 90 yX3_repack, Cond.instanceMethod yX3_repack, Cond.selects RX3 yX3_repack yX3_repack, Cond.code yX3_repack cX3_repack 5 (some .int), Cond.fieldLink RX3 20 "ClosExchange$Router" "formerVias" "LClosExchange$Row;", Cond.methodLink RX3 83 yX1_countCalls, Cond.instanceMethod yX1_countCalls, Cond.selects RX1 yX1_countCalls yX1_countCalls, Cond.code yX1_countCalls cX1_countCalls 3 (some .int), Cond.methodLink RX3 90 yX1_fullestBoard, Cond.instanceMethod yX1_fullestBoard, Cond.selects RX1 yX1_fullestBoard yX1_fullestBoard, Cond.code yX1_fullestBoard cX1_fullestBoard 6 (some .int), Cond.methodLink RX1 92 Lib.Math.max.name, Cond.static Lib.Math.max.name]
def wsX5_obey_r8 : List Cond := [Cond.initialized "java/lang/Math", Cond.code Lib.Math.max.name Lib.Math.max.code 2 (some .int), Cond.methodLink RX1 89 yX1_isOutletBusy, Cond.methodLink RX3 93 yX3_lowestBits, Cond.static yX3_lowestBits, Cond.code yX3_lowestBits cX3_lowestBits 5 (some .int), Cond.methodLink RX3 97 yX4_copyFrom, Cond.instanceMethod yX4_copyFrom, Cond.selects RX4 yX4_copyFrom yX4_copyFrom, Cond.code yX4_copyFrom cX4_copyFrom 2 none, Cond.methodLink RX4 27 Lib.Math.min.name, Cond.static Lib.Math.min.name, Cond.code Lib.Math.min.name Lib.Math.min.code 2 (some .int), Cond.methodLink RX4 30 arraycopyName, Cond.native arraycopyName, Cond.static arraycopyName, Cond.initialized "java/lang/System", Cond.methodLink RX3 101 yX3_countChanged, Cond.instanceMethod yX3_countChanged, Cond.selects RX3 yX3_countChanged yX3_countChanged, Cond.code yX3_countChanged cX3_countChanged 4 (some .int)]
def wsX5_obey : List Cond := .code yX5_obey cX5_obey 1 (some .int) :: ((wsX5_obey_r1 ++ (wsX5_obey_r2 ++ (wsX5_obey_r3 ++ (wsX5_obey_r4 ++ (wsX5_obey_r5 ++ (wsX5_obey_r6 ++ (wsX5_obey_r7 ++ wsX5_obey_r8))))))) ++ wsX50 ++ wsX20 ++ wsX10 ++ wsX40 ++ wsX30)
def wsX5_perform_r1 : List Cond := [Cond.fieldLink RX5 42 "ClosExchange" "text" "LClosExchange$OrderText;", Cond.fieldLink RX5 16 "ClosExchange" "before" "LClosExchange$Network;", Cond.fieldLink RX5 12 "ClosExchange" "network" "LClosExchange$Network;", Cond.methodLink RX5 100 yX2_findFault, Cond.instanceMethod yX2_findFault, Cond.selects RX2 yX2_findFault yX2_findFault, Cond.initialized RX2, Cond.code yX2_findFault cX2_findFault 2 (some .int), Cond.fieldLink RX2 28 "ClosExchange$OrderText" "place" "I", Cond.fieldLink RX2 20 "ClosExchange$OrderText" "length" "I", Cond.methodLink RX2 31 yX2_rewind, Cond.instanceMethod yX2_rewind, Cond.selects RX2 yX2_rewind yX2_rewind, Cond.code yX2_rewind cX2_rewind 1 none, Cond.methodLink RX2 34 yX2_readOrder, Cond.instanceMethod yX2_readOrder, Cond.selects RX2 yX2_readOrder yX2_readOrder, Cond.code yX2_readOrder cX2_readOrder 1 (some .boolean), Cond.fieldLink RX2 46 "ClosExchange$OrderText" "kind" "I", Cond.fieldLink RX2 53 "ClosExchange$OrderText" "first" "I", Cond.fieldLink RX2 56 "ClosExchange$OrderText" "second" "I", Cond.methodLink RX2 42 yX2_sign, Cond.instanceMethod yX2_sign, Cond.selects RX2 yX2_sign yX2_sign]
def wsX5_perform_r2 : List Cond := [Cond.code yX2_sign cX2_sign 1 (some .int), Cond.fieldLink RX2 14 "ClosExchange$OrderText" "signs" "LClosExchange$Row;", Cond.methodLink RX2 59 yX4_get, Cond.instanceMethod yX4_get, Cond.selects RX4 yX4_get yX4_get, Cond.initialized RX4, Cond.code yX4_get cX4_get 2 (some .int), Cond.fieldLink RX4 15 "ClosExchange$Row" "cells" "[I", Cond.methodLink RX2 49 yX2_readNumber, Cond.instanceMethod yX2_readNumber, Cond.selects RX2 yX2_readNumber yX2_readNumber, Cond.code yX2_readNumber cX2_readNumber 6 (some .int), Cond.methodLink RX2 62 Lib.Math.max.name, Cond.static Lib.Math.max.name, Cond.initialized "java/lang/Math", Cond.code Lib.Math.max.name Lib.Math.max.code 2 (some .int), Cond.methodLink RX2 38 yX2_skip, Cond.instanceMethod yX2_skip, Cond.selects RX2 yX2_skip yX2_skip, Cond.code yX2_skip cX2_skip 2 (some .boolean), Cond.methodLink RX5 69 yX1_copyFrom, Cond.instanceMethod yX1_copyFrom, Cond.selects RX1 yX1_copyFrom yX1_copyFrom, Cond.initialized RX1]
def wsX5_perform_r3 : List Cond := [Cond.code yX1_copyFrom cX1_copyFrom 2 none, Cond.fieldLink RX1 9 "ClosExchange$Network" "boards" "I", Cond.fieldLink RX1 15 "ClosExchange$Network" "lines" "I", Cond.fieldLink RX1 18 "ClosExchange$Network" "middles" "I", Cond.fieldLink RX1 21 "ClosExchange$Network" "service" "I", Cond.fieldLink RX1 48 "ClosExchange$Network" "choiceRule" "I", Cond.fieldLink RX1 51 "ClosExchange$Network" "pairRule" "I", Cond.fieldLink RX1 54 "ClosExchange$Network" "connected" "I", Cond.fieldLink RX1 57 "ClosExchange$Network" "ended" "I", Cond.fieldLink RX1 60 "ClosExchange$Network" "dropped" "I", Cond.fieldLink RX1 63 "ClosExchange$Network" "moved" "I", Cond.fieldLink RX1 29 "ClosExchange$Network" "numbers" "LClosExchange$Row;", Cond.fieldLink RX1 33 "ClosExchange$Network" "outlets" "LClosExchange$Row;", Cond.fieldLink RX1 36 "ClosExchange$Network" "vias" "LClosExchange$Row;", Cond.fieldLink RX1 39 "ClosExchange$Network" "inlets" "LClosExchange$Row;", Cond.fieldLink RX1 42 "ClosExchange$Network" "firstLinks" "LClosExchange$Row;", Cond.fieldLink RX1 45 "ClosExchange$Network" "lastLinks" "LClosExchange$Row;", Cond.methodLink RX1 66 yX4_copyFrom, Cond.instanceMethod yX4_copyFrom, Cond.selects RX4 yX4_copyFrom yX4_copyFrom, Cond.code yX4_copyFrom cX4_copyFrom 2 none, Cond.methodLink RX4 27 Lib.Math.min.name, Cond.static Lib.Math.min.name, Cond.code Lib.Math.min.name Lib.Math.min.code 2 (some .int)]
def wsX5_perform_r4 : List Cond := [Cond.methodLink RX4 30 arraycopyName, Cond.native arraycopyName, Cond.static arraycopyName, Cond.initialized "java/lang/System", Cond.methodLink RX5 104 yX2_rewind, Cond.methodLink RX5 107 yX2_readOrder, Cond.methodLink RX5 111 yX5_obey, Cond.instanceMethod yX5_obey, Cond.selects RX5 yX5_obey yX5_obey, Cond.initialized RX5, Cond.code yX5_obey cX5_obey 1 (some .int), Cond.fieldLink RX5 219 "ClosExchange$OrderText" "kind" "I", Cond.fieldLink RX5 28 "ClosExchange" "router" "LClosExchange$Router;", Cond.fieldLink RX5 222 "ClosExchange$OrderText" "first" "I", Cond.fieldLink RX5 225 "ClosExchange$OrderText" "second" "I", Cond.methodLink RX5 72 yX3_join, Cond.instanceMethod yX3_join, Cond.selects RX3 yX3_join yX3_join, Cond.initialized RX3, Cond.code yX3_join cX3_join 5 (some .int), Cond.methodLink RX3 23 yX3_tryCall, Cond.instanceMethod yX3_tryCall, Cond.selects RX3 yX3_tryCall yX3_tryCall, Cond.code yX3_tryCall cX3_tryCall 4 (some .int)]
def wsX5_perform_r5 : List Cond := [Cond.methodLink RX3 37 yX1_isLine, Cond.instanceMethod yX1_isLine, Cond.selects RX1 yX1_isLine yX1_isLine, Cond.code yX1_isLine cX1_isLine 2 (some .boolean), Cond.methodLink RX3 41 yX1_isInletBusy, Cond.instanceMethod yX1_isInletBusy, Cond.selects RX1 yX1_isInletBusy yX1_isInletBusy, Cond.code yX1_isInletBusy cX1_isInletBusy 2 (some .boolean), Cond.methodLink RX1 77 yX4_get, Cond.methodLink RX3 104 yX1_isOutletBusy, Cond.instanceMethod yX1_isOutletBusy, Cond.selects RX1 yX1_isOutletBusy yX1_isOutletBusy, Cond.code yX1_isOutletBusy cX1_isOutletBusy 2 (some .boolean), Cond.methodLink RX3 107 yX3_findWay, Cond.instanceMethod yX3_findWay, Cond.selects RX3 yX3_findWay yX3_findWay, Cond.code yX3_findWay cX3_findWay 7 (some .int), Cond.fieldLink RX3 119 "ClosExchange$Router" "chainLength" "I", Cond.fieldLink RX3 125 "ClosExchange$Network" "firstLinks" "LClosExchange$Row;", Cond.fieldLink RX3 132 "ClosExchange$Network" "lastLinks" "LClosExchange$Row;", Cond.fieldLink RX3 143 "ClosExchange$Router" "pairP" "I", Cond.methodLink RX3 122 yX1_boardOf, Cond.instanceMethod yX1_boardOf, Cond.selects RX1 yX1_boardOf yX1_boardOf]
def wsX5_perform_r6 : List Cond := [Cond.code yX1_boardOf cX1_boardOf 2 (some .int), Cond.methodLink RX3 128 yX1_freeOnLinks, Cond.instanceMethod yX1_freeOnLinks, Cond.selects RX1 yX1_freeOnLinks yX1_freeOnLinks, Cond.code yX1_freeOnLinks cX1_freeOnLinks 5 (some .int), Cond.static yX5_link, Cond.code yX5_link cX5_link 2 (some .int), Cond.methodLink RX3 135 yX3_choose, Cond.instanceMethod yX3_choose, Cond.selects RX3 yX3_choose yX3_choose, Cond.code yX3_choose cX3_choose 8 (some .int), Cond.fieldLink RX3 146 "ClosExchange$Network" "choiceRule" "I", Cond.static yX5_hasBit, Cond.code yX5_hasBit cX5_hasBit 2 (some .boolean), Cond.methodLink RX3 149 yX1_loadOf, Cond.instanceMethod yX1_loadOf, Cond.selects RX1 yX1_loadOf yX1_loadOf, Cond.code yX1_loadOf cX1_loadOf 4 (some .int), Cond.methodLink RX3 139 yX3_findPair, Cond.instanceMethod yX3_findPair, Cond.selects RX3 yX3_findPair yX3_findPair, Cond.code yX3_findPair cX3_findPair 11 none, Cond.fieldLink RX3 155 "ClosExchange$Network" "pairRule" "I", Cond.methodLink RX3 152 yX3_follow]
def wsX5_perform_r7 : List Cond := [Cond.instanceMethod yX3_follow, Cond.selects RX3 yX3_follow yX3_follow, Cond.code yX3_follow cX3_follow 9 none, Cond.fieldLink RX3 158 "ClosExchange$Router" "pairQ" "I", Cond.fieldLink RX3 14 "ClosExchange$Router" "chain" "LClosExchange$Row;", Cond.fieldLink RX3 113 "ClosExchange$Network" "outlets" "LClosExchange$Row;", Cond.methodLink RX3 47 yX4_get, Cond.methodLink RX3 164 yX4_set, Cond.instanceMethod yX4_set, Cond.selects RX4 yX4_set yX4_set, Cond.code yX4_set cX4_set 3 none, Cond.methodLink RX3 27 yX1_addCall, Cond.instanceMethod yX1_addCall, Cond.selects RX1 yX1_addCall yX1_addCall, Cond.code yX1_addCall cX1_addCall 3 none, Cond.methodLink RX1 97 yX4_set, Cond.methodLink RX3 33 yX3_settle, Cond.instanceMethod yX3_settle, Cond.selects RX3 yX3_settle yX3_settle, Cond.code yX3_settle cX3_settle 5 none, Cond.fieldLink RX3 87 "ClosExchange$Network" "moved" "I", Cond.methodLink RX3 71 yX1_liftCall, Cond.instanceMethod yX1_liftCall, Cond.selects RX1 yX1_liftCall yX1_liftCall]
def wsX5_perform_r8 : List Cond := [Cond.code yX1_liftCall cX1_liftCall 3 none, Cond.methodLink RX1 104 yX1_boardOf, Cond.methodLink RX3 167 yX1_carryCall, Cond.instanceMethod yX1_carryCall, Cond.selects RX1 yX1_carryCall yX1_carryCall, Cond.code yX1_carryCall cX1_carryCall 3 none, Cond.methodLink RX5 80 yX3_part, Cond.instanceMethod yX3_part, Cond.selects RX3 yX3_part yX3_part, Cond.code yX3_part cX3_part 4 (some .int), Cond.fieldLink RX3 44 "ClosExchange$Network" "numbers" "LClosExchange$Row;", Cond.fieldLink RX3 54 "ClosExchange$Network" "ended" "I", Cond.methodLink RX3 51 yX1_removeCall, Cond.instanceMethod yX1_removeCall, Cond.selects RX1 yX1_removeCall yX1_removeCall, Cond.code yX1_removeCall cX1_removeCall 2 none, Cond.methodLink RX1 101 yX1_liftCall, Cond.methodLink RX5 84 yX3_retire, Cond.instanceMethod yX3_retire, Cond.selects RX3 yX3_retire yX3_retire, Cond.code yX3_retire cX3_retire 4 (some .int), Cond.fieldLink RX3 61 "ClosExchange$Network" "service" "I", Cond.fieldLink RX3 68 "ClosExchange$Network" "vias" "LClosExchange$Row;", Cond.methodLink RX3 58 yX1_isMiddle]
def wsX5_perform_r9 : List Cond := [Cond.instanceMethod yX1_isMiddle, Cond.selects RX1 yX1_isMiddle yX1_isMiddle, Cond.code yX1_isMiddle cX1_isMiddle 2 (some .boolean), Cond.methodLink RX3 74 yX3_reroute, Cond.instanceMethod yX3_reroute, Cond.selects RX3 yX3_reroute yX3_reroute, Cond.code yX3_reroute cX3_reroute 6 (some .int), Cond.fieldLink RX3 116 "ClosExchange$Network" "dropped" "I", Cond.methodLink RX3 110 yX1_firstLifted, Cond.instanceMethod yX1_firstLifted, Cond.selects RX1 yX1_firstLifted yX1_firstLifted, Cond.code yX1_firstLifted cX1_firstLifted 3 (some .int), Cond.methodLink RX1 85 yX1_isInletBusy, Cond.methodLink RX5 87 yX3_revive, Cond.instanceMethod yX3_revive, Cond.selects RX3 yX3_revive yX3_revive, Cond.code yX3_revive cX3_revive 3 (some .int), Cond.methodLink RX3 78 yJ6_bitCount_0f7a4, Cond.static yJ6_bitCount_0f7a4, Cond.initialized RJ6, Cond.code yJ6_bitCount_0f7a4 cJ6_bitCount_0f7a4 1 (some .int), Cond.constant RJ6 265 (1431655765), Cond.constant RJ6 266 (858993459), Cond.constant RJ6 267 (252645135)]
def wsX5_perform_r10 : List Cond := [Cond.methodLink RX5 90 yX3_repack, Cond.instanceMethod yX3_repack, Cond.selects RX3 yX3_repack yX3_repack, Cond.code yX3_repack cX3_repack 5 (some .int), Cond.fieldLink RX3 20 "ClosExchange$Router" "formerVias" "LClosExchange$Row;", Cond.methodLink RX3 83 yX1_countCalls, Cond.instanceMethod yX1_countCalls, Cond.selects RX1 yX1_countCalls yX1_countCalls, Cond.code yX1_countCalls cX1_countCalls 3 (some .int), Cond.methodLink RX3 90 yX1_fullestBoard, Cond.instanceMethod yX1_fullestBoard, Cond.selects RX1 yX1_fullestBoard yX1_fullestBoard, Cond.code yX1_fullestBoard cX1_fullestBoard 6 (some .int), Cond.methodLink RX1 92 Lib.Math.max.name, Cond.methodLink RX1 89 yX1_isOutletBusy, Cond.methodLink RX3 93 yX3_lowestBits, Cond.static yX3_lowestBits, Cond.code yX3_lowestBits cX3_lowestBits 5 (some .int), Cond.methodLink RX3 97 yX4_copyFrom, Cond.methodLink RX3 101 yX3_countChanged, Cond.instanceMethod yX3_countChanged, Cond.selects RX3 yX3_countChanged yX3_countChanged, Cond.code yX3_countChanged cX3_countChanged 4 (some .int), Cond.methodLink RX5 114 yX2_skip]
def wsX5_perform_r11 : List Cond := [Cond.methodLink RX5 76 yX5_recorded, Cond.instanceMethod yX5_recorded, Cond.selects RX5 yX5_recorded yX5_recorded, Cond.code yX5_recorded cX5_recorded 2 (some .int), Cond.fieldLink RX5 35 "ClosExchange" "history" "LClosExchange$History;", Cond.methodLink RX5 54 yX0_push, Cond.instanceMethod yX0_push, Cond.selects RX0 yX0_push yX0_push, Cond.initialized RX0, Cond.code yX0_push cX0_push 3 none, Cond.fieldLink RX0 18 "ClosExchange$History" "latest" "I", Cond.fieldLink RX0 30 "ClosExchange$History" "count" "I", Cond.methodLink RX0 33 Lib.Math.min.name, Cond.methodLink RX0 22 yX0_latestState, Cond.instanceMethod yX0_latestState, Cond.selects RX0 yX0_latestState yX0_latestState, Cond.code yX0_latestState cX0_latestState 1 (some (.object "ClosExchange$Network")), Cond.fieldLink RX0 11 "ClosExchange$History" "states" "[LClosExchange$Network;", Cond.methodLink RX0 26 yX1_copyFrom]
def wsX5_perform : List Cond := .code yX5_perform cX5_perform 4 (some .int) :: ((wsX5_perform_r1 ++ (wsX5_perform_r2 ++ (wsX5_perform_r3 ++ (wsX5_perform_r4 ++ (wsX5_perform_r5 ++ (wsX5_perform_r6 ++ (wsX5_perform_r7 ++ (wsX5_perform_r8 ++ (wsX5_perform_r9 ++ (wsX5_perform_r10 ++ wsX5_perform_r11)))))))))) ++ wsX50 ++ wsX20 ++ wsX40 ++ wsX10 ++ wsX30 ++ wsX00)
def wsX5_undo_r1 : List Cond := [Cond.fieldLink RX5 35 "ClosExchange" "history" "LClosExchange$History;", Cond.fieldLink RX5 12 "ClosExchange" "network" "LClosExchange$Network;", Cond.methodLink RX5 118 yX0_takeBack, Cond.instanceMethod yX0_takeBack, Cond.selects RX0 yX0_takeBack yX0_takeBack, Cond.initialized RX0, Cond.code yX0_takeBack cX0_takeBack 3 (some .int), Cond.fieldLink RX0 30 "ClosExchange$History" "count" "I", Cond.fieldLink RX0 18 "ClosExchange$History" "latest" "I", Cond.methodLink RX0 22 yX0_latestState, Cond.instanceMethod yX0_latestState, Cond.selects RX0 yX0_latestState yX0_latestState, Cond.code yX0_latestState cX0_latestState 1 (some (.object "ClosExchange$Network")), Cond.fieldLink RX0 11 "ClosExchange$History" "states" "[LClosExchange$Network;", Cond.methodLink RX0 26 yX1_copyFrom, Cond.instanceMethod yX1_copyFrom, Cond.selects RX1 yX1_copyFrom yX1_copyFrom, Cond.initialized RX1, Cond.code yX1_copyFrom cX1_copyFrom 2 none, Cond.fieldLink RX1 9 "ClosExchange$Network" "boards" "I", Cond.fieldLink RX1 15 "ClosExchange$Network" "lines" "I", Cond.fieldLink RX1 18 "ClosExchange$Network" "middles" "I", Cond.fieldLink RX1 21 "ClosExchange$Network" "service" "I", Cond.fieldLink RX1 48 "ClosExchange$Network" "choiceRule" "I"]
def wsX5_undo_r2 : List Cond := [Cond.fieldLink RX1 51 "ClosExchange$Network" "pairRule" "I", Cond.fieldLink RX1 54 "ClosExchange$Network" "connected" "I", Cond.fieldLink RX1 57 "ClosExchange$Network" "ended" "I", Cond.fieldLink RX1 60 "ClosExchange$Network" "dropped" "I", Cond.fieldLink RX1 63 "ClosExchange$Network" "moved" "I", Cond.fieldLink RX1 29 "ClosExchange$Network" "numbers" "LClosExchange$Row;", Cond.fieldLink RX1 33 "ClosExchange$Network" "outlets" "LClosExchange$Row;", Cond.fieldLink RX1 36 "ClosExchange$Network" "vias" "LClosExchange$Row;", Cond.fieldLink RX1 39 "ClosExchange$Network" "inlets" "LClosExchange$Row;", Cond.fieldLink RX1 42 "ClosExchange$Network" "firstLinks" "LClosExchange$Row;", Cond.fieldLink RX1 45 "ClosExchange$Network" "lastLinks" "LClosExchange$Row;", Cond.methodLink RX1 66 yX4_copyFrom, Cond.instanceMethod yX4_copyFrom, Cond.selects RX4 yX4_copyFrom yX4_copyFrom, Cond.initialized RX4, Cond.code yX4_copyFrom cX4_copyFrom 2 none, Cond.fieldLink RX4 15 "ClosExchange$Row" "cells" "[I", Cond.methodLink RX4 27 Lib.Math.min.name, Cond.static Lib.Math.min.name, Cond.initialized "java/lang/Math", Cond.code Lib.Math.min.name Lib.Math.min.code 2 (some .int), Cond.methodLink RX4 30 arraycopyName, Cond.native arraycopyName, Cond.static arraycopyName]
def wsX5_undo_r3 : List Cond := [Cond.initialized "java/lang/System"]
def wsX5_undo : List Cond := .code yX5_undo cX5_undo 1 (some .int) :: ((wsX5_undo_r1 ++ (wsX5_undo_r2 ++ wsX5_undo_r3)) ++ wsX50 ++ wsX00 ++ wsX10 ++ wsX40)
def wsX5_keep_r1 : List Cond := [Cond.fieldLink RX5 19 "ClosExchange" "snapshot" "LClosExchange$Network;", Cond.fieldLink RX5 12 "ClosExchange" "network" "LClosExchange$Network;", Cond.fieldLink RX5 46 "ClosExchange" "kept" "Z", Cond.methodLink RX5 69 yX1_copyFrom, Cond.instanceMethod yX1_copyFrom, Cond.selects RX1 yX1_copyFrom yX1_copyFrom, Cond.initialized RX1, Cond.code yX1_copyFrom cX1_copyFrom 2 none, Cond.fieldLink RX1 9 "ClosExchange$Network" "boards" "I", Cond.fieldLink RX1 15 "ClosExchange$Network" "lines" "I", Cond.fieldLink RX1 18 "ClosExchange$Network" "middles" "I", Cond.fieldLink RX1 21 "ClosExchange$Network" "service" "I", Cond.fieldLink RX1 48 "ClosExchange$Network" "choiceRule" "I", Cond.fieldLink RX1 51 "ClosExchange$Network" "pairRule" "I", Cond.fieldLink RX1 54 "ClosExchange$Network" "connected" "I", Cond.fieldLink RX1 57 "ClosExchange$Network" "ended" "I", Cond.fieldLink RX1 60 "ClosExchange$Network" "dropped" "I", Cond.fieldLink RX1 63 "ClosExchange$Network" "moved" "I", Cond.fieldLink RX1 29 "ClosExchange$Network" "numbers" "LClosExchange$Row;", Cond.fieldLink RX1 33 "ClosExchange$Network" "outlets" "LClosExchange$Row;", Cond.fieldLink RX1 36 "ClosExchange$Network" "vias" "LClosExchange$Row;", Cond.fieldLink RX1 39 "ClosExchange$Network" "inlets" "LClosExchange$Row;", Cond.fieldLink RX1 42 "ClosExchange$Network" "firstLinks" "LClosExchange$Row;", Cond.fieldLink RX1 45 "ClosExchange$Network" "lastLinks" "LClosExchange$Row;"]
def wsX5_keep_r2 : List Cond := [Cond.methodLink RX1 66 yX4_copyFrom, Cond.instanceMethod yX4_copyFrom, Cond.selects RX4 yX4_copyFrom yX4_copyFrom, Cond.initialized RX4, Cond.code yX4_copyFrom cX4_copyFrom 2 none, Cond.fieldLink RX4 15 "ClosExchange$Row" "cells" "[I", Cond.methodLink RX4 27 Lib.Math.min.name, Cond.static Lib.Math.min.name, Cond.initialized "java/lang/Math", Cond.code Lib.Math.min.name Lib.Math.min.code 2 (some .int), Cond.methodLink RX4 30 arraycopyName, Cond.native arraycopyName, Cond.static arraycopyName, Cond.initialized "java/lang/System", Cond.methodLink RX5 121 yX1_countCalls, Cond.instanceMethod yX1_countCalls, Cond.selects RX1 yX1_countCalls yX1_countCalls, Cond.code yX1_countCalls cX1_countCalls 3 (some .int), Cond.methodLink RX1 77 yX4_get, Cond.instanceMethod yX4_get, Cond.selects RX4 yX4_get yX4_get, Cond.code yX4_get cX4_get 2 (some .int)]
def wsX5_keep : List Cond := .code yX5_keep cX5_keep 1 (some .int) :: ((wsX5_keep_r1 ++ wsX5_keep_r2) ++ wsX50 ++ wsX10 ++ wsX40)
def wsX5_restore_r1 : List Cond := [Cond.fieldLink RX5 46 "ClosExchange" "kept" "Z", Cond.fieldLink RX5 35 "ClosExchange" "history" "LClosExchange$History;", Cond.fieldLink RX5 12 "ClosExchange" "network" "LClosExchange$Network;", Cond.fieldLink RX5 19 "ClosExchange" "snapshot" "LClosExchange$Network;", Cond.methodLink RX5 54 yX0_push, Cond.instanceMethod yX0_push, Cond.selects RX0 yX0_push yX0_push, Cond.initialized RX0, Cond.code yX0_push cX0_push 3 none, Cond.fieldLink RX0 18 "ClosExchange$History" "latest" "I", Cond.fieldLink RX0 30 "ClosExchange$History" "count" "I", Cond.methodLink RX0 33 Lib.Math.min.name, Cond.static Lib.Math.min.name, Cond.initialized "java/lang/Math", Cond.code Lib.Math.min.name Lib.Math.min.code 2 (some .int), Cond.methodLink RX0 22 yX0_latestState, Cond.instanceMethod yX0_latestState, Cond.selects RX0 yX0_latestState yX0_latestState, Cond.code yX0_latestState cX0_latestState 1 (some (.object "ClosExchange$Network")), Cond.fieldLink RX0 11 "ClosExchange$History" "states" "[LClosExchange$Network;", Cond.methodLink RX0 26 yX1_copyFrom, Cond.instanceMethod yX1_copyFrom, Cond.selects RX1 yX1_copyFrom yX1_copyFrom, Cond.initialized RX1]
def wsX5_restore_r2 : List Cond := [Cond.code yX1_copyFrom cX1_copyFrom 2 none, Cond.fieldLink RX1 9 "ClosExchange$Network" "boards" "I", Cond.fieldLink RX1 15 "ClosExchange$Network" "lines" "I", Cond.fieldLink RX1 18 "ClosExchange$Network" "middles" "I", Cond.fieldLink RX1 21 "ClosExchange$Network" "service" "I", Cond.fieldLink RX1 48 "ClosExchange$Network" "choiceRule" "I", Cond.fieldLink RX1 51 "ClosExchange$Network" "pairRule" "I", Cond.fieldLink RX1 54 "ClosExchange$Network" "connected" "I", Cond.fieldLink RX1 57 "ClosExchange$Network" "ended" "I", Cond.fieldLink RX1 60 "ClosExchange$Network" "dropped" "I", Cond.fieldLink RX1 63 "ClosExchange$Network" "moved" "I", Cond.fieldLink RX1 29 "ClosExchange$Network" "numbers" "LClosExchange$Row;", Cond.fieldLink RX1 33 "ClosExchange$Network" "outlets" "LClosExchange$Row;", Cond.fieldLink RX1 36 "ClosExchange$Network" "vias" "LClosExchange$Row;", Cond.fieldLink RX1 39 "ClosExchange$Network" "inlets" "LClosExchange$Row;", Cond.fieldLink RX1 42 "ClosExchange$Network" "firstLinks" "LClosExchange$Row;", Cond.fieldLink RX1 45 "ClosExchange$Network" "lastLinks" "LClosExchange$Row;", Cond.methodLink RX1 66 yX4_copyFrom, Cond.instanceMethod yX4_copyFrom, Cond.selects RX4 yX4_copyFrom yX4_copyFrom, Cond.initialized RX4, Cond.code yX4_copyFrom cX4_copyFrom 2 none, Cond.fieldLink RX4 15 "ClosExchange$Row" "cells" "[I", Cond.methodLink RX4 27 Lib.Math.min.name]
def wsX5_restore_r3 : List Cond := [Cond.methodLink RX4 30 arraycopyName, Cond.native arraycopyName, Cond.static arraycopyName, Cond.initialized "java/lang/System", Cond.methodLink RX5 69 yX1_copyFrom, Cond.methodLink RX5 121 yX1_countCalls, Cond.instanceMethod yX1_countCalls, Cond.selects RX1 yX1_countCalls yX1_countCalls, Cond.code yX1_countCalls cX1_countCalls 3 (some .int), Cond.methodLink RX1 77 yX4_get, Cond.instanceMethod yX4_get, Cond.selects RX4 yX4_get yX4_get, Cond.code yX4_get cX4_get 2 (some .int)]
def wsX5_restore : List Cond := .code yX5_restore cX5_restore 1 (some .int) :: ((wsX5_restore_r1 ++ (wsX5_restore_r2 ++ wsX5_restore_r3)) ++ wsX50 ++ wsX00 ++ wsX10 ++ wsX40)
def wsX5_callOfInlet : List Cond := .code yX5_callOfInlet cX5_callOfInlet 2 (some .int) :: ([.fieldLink RX5 12 "ClosExchange" "network" "LClosExchange$Network;", .fieldLink RX5 127 "ClosExchange$Network" "numbers" "LClosExchange$Row;", .methodLink RX5 124 yX1_isLine, .instanceMethod yX1_isLine, .selects RX1 yX1_isLine yX1_isLine, .initialized RX1, .code yX1_isLine cX1_isLine 2 (some .boolean), .fieldLink RX1 9 "ClosExchange$Network" "boards" "I", .fieldLink RX1 15 "ClosExchange$Network" "lines" "I", .methodLink RX5 131 yX4_get, .instanceMethod yX4_get, .selects RX4 yX4_get yX4_get, .initialized RX4, .code yX4_get cX4_get 2 (some .int), .fieldLink RX4 15 "ClosExchange$Row" "cells" "[I"] ++ wsX50 ++ wsX10 ++ wsX40)
def wsX5_callOfOutlet : List Cond := .code yX5_callOfOutlet cX5_callOfOutlet 2 (some .int) :: ([.fieldLink RX5 12 "ClosExchange" "network" "LClosExchange$Network;", .fieldLink RX5 127 "ClosExchange$Network" "numbers" "LClosExchange$Row;", .fieldLink RX5 136 "ClosExchange$Network" "inlets" "LClosExchange$Row;", .methodLink RX5 124 yX1_isLine, .instanceMethod yX1_isLine, .selects RX1 yX1_isLine yX1_isLine, .initialized RX1, .code yX1_isLine cX1_isLine 2 (some .boolean), .fieldLink RX1 9 "ClosExchange$Network" "boards" "I", .fieldLink RX1 15 "ClosExchange$Network" "lines" "I", .methodLink RX5 131 yX4_get, .instanceMethod yX4_get, .selects RX4 yX4_get yX4_get, .initialized RX4, .code yX4_get cX4_get 2 (some .int), .fieldLink RX4 15 "ClosExchange$Row" "cells" "[I"] ++ wsX50 ++ wsX10 ++ wsX40)
def wsX5_inletOf : List Cond := .code yX5_inletOf cX5_inletOf 2 (some .int) :: ([.fieldLink RX5 12 "ClosExchange" "network" "LClosExchange$Network;", .methodLink RX5 139 yX1_findInlet, .instanceMethod yX1_findInlet, .selects RX1 yX1_findInlet yX1_findInlet, .initialized RX1, .code yX1_findInlet cX1_findInlet 3 (some .int), .fieldLink RX1 29 "ClosExchange$Network" "numbers" "LClosExchange$Row;", .methodLink RX1 77 yX4_get, .instanceMethod yX4_get, .selects RX4 yX4_get yX4_get, .initialized RX4, .code yX4_get cX4_get 2 (some .int), .fieldLink RX4 15 "ClosExchange$Row" "cells" "[I"] ++ wsX50 ++ wsX10 ++ wsX40)
def wsX5_outletOf : List Cond := .code yX5_outletOf cX5_outletOf 3 (some .int) :: ([.fieldLink RX5 12 "ClosExchange" "network" "LClosExchange$Network;", .fieldLink RX5 142 "ClosExchange$Network" "outlets" "LClosExchange$Row;", .methodLink RX5 139 yX1_findInlet, .instanceMethod yX1_findInlet, .selects RX1 yX1_findInlet yX1_findInlet, .initialized RX1, .code yX1_findInlet cX1_findInlet 3 (some .int), .fieldLink RX1 29 "ClosExchange$Network" "numbers" "LClosExchange$Row;", .methodLink RX1 77 yX4_get, .instanceMethod yX4_get, .selects RX4 yX4_get yX4_get, .initialized RX4, .code yX4_get cX4_get 2 (some .int), .fieldLink RX4 15 "ClosExchange$Row" "cells" "[I", .methodLink RX5 131 yX4_get] ++ wsX50 ++ wsX10 ++ wsX40)
def wsX5_middleOf : List Cond := .code yX5_middleOf cX5_middleOf 3 (some .int) :: ([.fieldLink RX5 12 "ClosExchange" "network" "LClosExchange$Network;", .fieldLink RX5 145 "ClosExchange$Network" "vias" "LClosExchange$Row;", .methodLink RX5 139 yX1_findInlet, .instanceMethod yX1_findInlet, .selects RX1 yX1_findInlet yX1_findInlet, .initialized RX1, .code yX1_findInlet cX1_findInlet 3 (some .int), .fieldLink RX1 29 "ClosExchange$Network" "numbers" "LClosExchange$Row;", .methodLink RX1 77 yX4_get, .instanceMethod yX4_get, .selects RX4 yX4_get yX4_get, .initialized RX4, .code yX4_get cX4_get 2 (some .int), .fieldLink RX4 15 "ClosExchange$Row" "cells" "[I", .methodLink RX5 131 yX4_get] ++ wsX50 ++ wsX10 ++ wsX40)
def wsX5_onFirstLink : List Cond := .code yX5_onFirstLink cX5_onFirstLink 3 (some .int) :: ([.fieldLink RX5 12 "ClosExchange" "network" "LClosExchange$Network;", .fieldLink RX5 127 "ClosExchange$Network" "numbers" "LClosExchange$Row;", .fieldLink RX5 154 "ClosExchange$Network" "firstLinks" "LClosExchange$Row;", .methodLink RX5 148 yX1_isBoard, .instanceMethod yX1_isBoard, .selects RX1 yX1_isBoard yX1_isBoard, .initialized RX1, .code yX1_isBoard cX1_isBoard 2 (some .boolean), .fieldLink RX1 9 "ClosExchange$Network" "boards" "I", .methodLink RX5 151 yX1_isMiddle, .instanceMethod yX1_isMiddle, .selects RX1 yX1_isMiddle yX1_isMiddle, .code yX1_isMiddle cX1_isMiddle 2 (some .boolean), .fieldLink RX1 18 "ClosExchange$Network" "middles" "I", .methodLink RX5 157 yX5_link, .static yX5_link, .initialized RX5, .code yX5_link cX5_link 2 (some .int), .methodLink RX5 131 yX4_get, .instanceMethod yX4_get, .selects RX4 yX4_get yX4_get, .initialized RX4, .code yX4_get cX4_get 2 (some .int), .fieldLink RX4 15 "ClosExchange$Row" "cells" "[I"] ++ wsX50 ++ wsX10 ++ wsX40)
def wsX5_onLastLink : List Cond := .code yX5_onLastLink cX5_onLastLink 3 (some .int) :: ([.fieldLink RX5 12 "ClosExchange" "network" "LClosExchange$Network;", .fieldLink RX5 127 "ClosExchange$Network" "numbers" "LClosExchange$Row;", .fieldLink RX5 161 "ClosExchange$Network" "lastLinks" "LClosExchange$Row;", .methodLink RX5 151 yX1_isMiddle, .instanceMethod yX1_isMiddle, .selects RX1 yX1_isMiddle yX1_isMiddle, .initialized RX1, .code yX1_isMiddle cX1_isMiddle 2 (some .boolean), .fieldLink RX1 18 "ClosExchange$Network" "middles" "I", .methodLink RX5 148 yX1_isBoard, .instanceMethod yX1_isBoard, .selects RX1 yX1_isBoard yX1_isBoard, .code yX1_isBoard cX1_isBoard 2 (some .boolean), .fieldLink RX1 9 "ClosExchange$Network" "boards" "I", .methodLink RX5 157 yX5_link, .static yX5_link, .initialized RX5, .code yX5_link cX5_link 2 (some .int), .methodLink RX5 131 yX4_get, .instanceMethod yX4_get, .selects RX4 yX4_get yX4_get, .initialized RX4, .code yX4_get cX4_get 2 (some .int), .fieldLink RX4 15 "ClosExchange$Row" "cells" "[I"] ++ wsX50 ++ wsX10 ++ wsX40)
def wsX5_load : List Cond := .code yX5_load cX5_load 2 (some .int) :: ([.fieldLink RX5 12 "ClosExchange" "network" "LClosExchange$Network;", .methodLink RX5 151 yX1_isMiddle, .instanceMethod yX1_isMiddle, .selects RX1 yX1_isMiddle yX1_isMiddle, .initialized RX1, .code yX1_isMiddle cX1_isMiddle 2 (some .boolean), .fieldLink RX1 18 "ClosExchange$Network" "middles" "I", .methodLink RX5 164 yX1_loadOf, .instanceMethod yX1_loadOf, .selects RX1 yX1_loadOf yX1_loadOf, .code yX1_loadOf cX1_loadOf 4 (some .int), .fieldLink RX1 9 "ClosExchange$Network" "boards" "I", .fieldLink RX1 42 "ClosExchange$Network" "firstLinks" "LClosExchange$Row;", .static yX5_link, .initialized RX5, .code yX5_link cX5_link 2 (some .int), .methodLink RX1 77 yX4_get, .instanceMethod yX4_get, .selects RX4 yX4_get yX4_get, .initialized RX4, .code yX4_get cX4_get 2 (some .int), .fieldLink RX4 15 "ClosExchange$Row" "cells" "[I"] ++ wsX50 ++ wsX10 ++ wsX40)
def wsX5_freeForFirst : List Cond := .code yX5_freeForFirst cX5_freeForFirst 2 (some .int) :: ([.fieldLink RX5 12 "ClosExchange" "network" "LClosExchange$Network;", .fieldLink RX5 154 "ClosExchange$Network" "firstLinks" "LClosExchange$Row;", .methodLink RX5 148 yX1_isBoard, .instanceMethod yX1_isBoard, .selects RX1 yX1_isBoard yX1_isBoard, .initialized RX1, .code yX1_isBoard cX1_isBoard 2 (some .boolean), .fieldLink RX1 9 "ClosExchange$Network" "boards" "I", .methodLink RX5 167 yX1_freeOnLinks, .instanceMethod yX1_freeOnLinks, .selects RX1 yX1_freeOnLinks yX1_freeOnLinks, .code yX1_freeOnLinks cX1_freeOnLinks 5 (some .int), .fieldLink RX1 18 "ClosExchange$Network" "middles" "I", .fieldLink RX1 21 "ClosExchange$Network" "service" "I", .static yX5_link, .initialized RX5, .code yX5_link cX5_link 2 (some .int), .methodLink RX1 77 yX4_get, .instanceMethod yX4_get, .selects RX4 yX4_get yX4_get, .initialized RX4, .code yX4_get cX4_get 2 (some .int), .fieldLink RX4 15 "ClosExchange$Row" "cells" "[I"] ++ wsX50 ++ wsX10 ++ wsX40)
def wsX5_freeForLast : List Cond := .code yX5_freeForLast cX5_freeForLast 2 (some .int) :: ([.fieldLink RX5 12 "ClosExchange" "network" "LClosExchange$Network;", .fieldLink RX5 161 "ClosExchange$Network" "lastLinks" "LClosExchange$Row;", .methodLink RX5 148 yX1_isBoard, .instanceMethod yX1_isBoard, .selects RX1 yX1_isBoard yX1_isBoard, .initialized RX1, .code yX1_isBoard cX1_isBoard 2 (some .boolean), .fieldLink RX1 9 "ClosExchange$Network" "boards" "I", .methodLink RX5 167 yX1_freeOnLinks, .instanceMethod yX1_freeOnLinks, .selects RX1 yX1_freeOnLinks yX1_freeOnLinks, .code yX1_freeOnLinks cX1_freeOnLinks 5 (some .int), .fieldLink RX1 18 "ClosExchange$Network" "middles" "I", .fieldLink RX1 21 "ClosExchange$Network" "service" "I", .static yX5_link, .initialized RX5, .code yX5_link cX5_link 2 (some .int), .methodLink RX1 77 yX4_get, .instanceMethod yX4_get, .selects RX4 yX4_get yX4_get, .initialized RX4, .code yX4_get cX4_get 2 (some .int), .fieldLink RX4 15 "ClosExchange$Row" "cells" "[I"] ++ wsX50 ++ wsX10 ++ wsX40)
def wsX5_inService : List Cond := .code yX5_inService cX5_inService 1 (some .int) :: ([.fieldLink RX5 12 "ClosExchange" "network" "LClosExchange$Network;", .fieldLink RX5 171 "ClosExchange$Network" "service" "I"] ++ wsX50 ++ wsX10)
def wsX5_total_r1 : List Cond := [Cond.fieldLink RX5 12 "ClosExchange" "network" "LClosExchange$Network;", Cond.fieldLink RX5 174 "ClosExchange$Network" "boards" "I", Cond.fieldLink RX5 177 "ClosExchange$Network" "lines" "I", Cond.fieldLink RX5 180 "ClosExchange$Network" "middles" "I", Cond.fieldLink RX5 62 "ClosExchange$Network" "choiceRule" "I", Cond.fieldLink RX5 66 "ClosExchange$Network" "pairRule" "I", Cond.fieldLink RX5 183 "ClosExchange$Network" "connected" "I", Cond.fieldLink RX5 186 "ClosExchange$Network" "ended" "I", Cond.fieldLink RX5 189 "ClosExchange$Network" "dropped" "I", Cond.fieldLink RX5 192 "ClosExchange$Network" "moved" "I", Cond.fieldLink RX5 35 "ClosExchange" "history" "LClosExchange$History;", Cond.fieldLink RX5 195 "ClosExchange$History" "count" "I", Cond.fieldLink RX5 42 "ClosExchange" "text" "LClosExchange$OrderText;", Cond.fieldLink RX5 97 "ClosExchange$OrderText" "length" "I", Cond.methodLink RX5 121 yX1_countCalls, Cond.instanceMethod yX1_countCalls, Cond.selects RX1 yX1_countCalls yX1_countCalls, Cond.initialized RX1, Cond.code yX1_countCalls cX1_countCalls 3 (some .int), Cond.fieldLink RX1 29 "ClosExchange$Network" "numbers" "LClosExchange$Row;", Cond.methodLink RX1 77 yX4_get, Cond.instanceMethod yX4_get, Cond.selects RX4 yX4_get yX4_get, Cond.initialized RX4]
def wsX5_total_r2 : List Cond := [Cond.code yX4_get cX4_get 2 (some .int), Cond.fieldLink RX4 15 "ClosExchange$Row" "cells" "[I"]
def wsX5_total : List Cond := .code yX5_total cX5_total 2 (some .int) :: ((wsX5_total_r1 ++ wsX5_total_r2) ++ wsX50 ++ wsX10 ++ wsX00 ++ wsX20 ++ wsX40)
def wsX5_wouldMove_r1 : List Cond := [Cond.fieldLink RX5 28 "ClosExchange" "router" "LClosExchange$Router;", Cond.fieldLink RX5 12 "ClosExchange" "network" "LClosExchange$Network;", Cond.fieldLink RX5 201 "ClosExchange$Router" "chainLength" "I", Cond.methodLink RX5 198 yX3_tryCall, Cond.instanceMethod yX3_tryCall, Cond.selects RX3 yX3_tryCall yX3_tryCall, Cond.initialized RX3, Cond.code yX3_tryCall cX3_tryCall 4 (some .int), Cond.methodLink RX3 37 yX1_isLine, Cond.instanceMethod yX1_isLine, Cond.selects RX1 yX1_isLine yX1_isLine, Cond.initialized RX1, Cond.code yX1_isLine cX1_isLine 2 (some .boolean), Cond.fieldLink RX1 9 "ClosExchange$Network" "boards" "I", Cond.fieldLink RX1 15 "ClosExchange$Network" "lines" "I", Cond.methodLink RX3 41 yX1_isInletBusy, Cond.instanceMethod yX1_isInletBusy, Cond.selects RX1 yX1_isInletBusy yX1_isInletBusy, Cond.code yX1_isInletBusy cX1_isInletBusy 2 (some .boolean), Cond.fieldLink RX1 29 "ClosExchange$Network" "numbers" "LClosExchange$Row;", Cond.methodLink RX1 77 yX4_get, Cond.instanceMethod yX4_get, Cond.selects RX4 yX4_get yX4_get, Cond.initialized RX4]
def wsX5_wouldMove_r2 : List Cond := [Cond.code yX4_get cX4_get 2 (some .int), Cond.fieldLink RX4 15 "ClosExchange$Row" "cells" "[I", Cond.methodLink RX3 104 yX1_isOutletBusy, Cond.instanceMethod yX1_isOutletBusy, Cond.selects RX1 yX1_isOutletBusy yX1_isOutletBusy, Cond.code yX1_isOutletBusy cX1_isOutletBusy 2 (some .boolean), Cond.fieldLink RX1 39 "ClosExchange$Network" "inlets" "LClosExchange$Row;", Cond.methodLink RX3 107 yX3_findWay, Cond.instanceMethod yX3_findWay, Cond.selects RX3 yX3_findWay yX3_findWay, Cond.code yX3_findWay cX3_findWay 7 (some .int), Cond.fieldLink RX3 119 "ClosExchange$Router" "chainLength" "I", Cond.fieldLink RX3 125 "ClosExchange$Network" "firstLinks" "LClosExchange$Row;", Cond.fieldLink RX3 132 "ClosExchange$Network" "lastLinks" "LClosExchange$Row;", Cond.fieldLink RX3 143 "ClosExchange$Router" "pairP" "I", Cond.methodLink RX3 122 yX1_boardOf, Cond.instanceMethod yX1_boardOf, Cond.selects RX1 yX1_boardOf yX1_boardOf, Cond.code yX1_boardOf cX1_boardOf 2 (some .int), Cond.methodLink RX3 128 yX1_freeOnLinks, Cond.instanceMethod yX1_freeOnLinks, Cond.selects RX1 yX1_freeOnLinks yX1_freeOnLinks, Cond.code yX1_freeOnLinks cX1_freeOnLinks 5 (some .int), Cond.fieldLink RX1 18 "ClosExchange$Network" "middles" "I"]
def wsX5_wouldMove_r3 : List Cond := [Cond.fieldLink RX1 21 "ClosExchange$Network" "service" "I", Cond.static yX5_link, Cond.initialized RX5, Cond.code yX5_link cX5_link 2 (some .int), Cond.methodLink RX3 135 yX3_choose, Cond.instanceMethod yX3_choose, Cond.selects RX3 yX3_choose yX3_choose, Cond.code yX3_choose cX3_choose 8 (some .int), Cond.fieldLink RX3 146 "ClosExchange$Network" "choiceRule" "I", Cond.static yX5_hasBit, Cond.code yX5_hasBit cX5_hasBit 2 (some .boolean), Cond.methodLink RX3 149 yX1_loadOf, Cond.instanceMethod yX1_loadOf, Cond.selects RX1 yX1_loadOf yX1_loadOf, Cond.code yX1_loadOf cX1_loadOf 4 (some .int), Cond.fieldLink RX1 42 "ClosExchange$Network" "firstLinks" "LClosExchange$Row;", Cond.methodLink RX3 139 yX3_findPair, Cond.instanceMethod yX3_findPair, Cond.selects RX3 yX3_findPair yX3_findPair, Cond.code yX3_findPair cX3_findPair 11 none, Cond.fieldLink RX3 155 "ClosExchange$Network" "pairRule" "I", Cond.methodLink RX3 152 yX3_follow, Cond.instanceMethod yX3_follow, Cond.selects RX3 yX3_follow yX3_follow]
def wsX5_wouldMove_r4 : List Cond := [Cond.code yX3_follow cX3_follow 9 none, Cond.fieldLink RX3 158 "ClosExchange$Router" "pairQ" "I", Cond.fieldLink RX3 14 "ClosExchange$Router" "chain" "LClosExchange$Row;", Cond.fieldLink RX3 113 "ClosExchange$Network" "outlets" "LClosExchange$Row;", Cond.methodLink RX3 47 yX4_get, Cond.methodLink RX3 164 yX4_set, Cond.instanceMethod yX4_set, Cond.selects RX4 yX4_set yX4_set, Cond.code yX4_set cX4_set 3 none]
def wsX5_wouldMove : List Cond := .code yX5_wouldMove cX5_wouldMove 4 (some .int) :: ((wsX5_wouldMove_r1 ++ (wsX5_wouldMove_r2 ++ (wsX5_wouldMove_r3 ++ wsX5_wouldMove_r4))) ++ wsX50 ++ wsX30 ++ wsX10 ++ wsX40)
def wsX5_chainCall_r1 : List Cond := [Cond.fieldLink RX5 28 "ClosExchange" "router" "LClosExchange$Router;", Cond.fieldLink RX5 12 "ClosExchange" "network" "LClosExchange$Network;", Cond.fieldLink RX5 201 "ClosExchange$Router" "chainLength" "I", Cond.fieldLink RX5 127 "ClosExchange$Network" "numbers" "LClosExchange$Row;", Cond.fieldLink RX5 204 "ClosExchange$Router" "chain" "LClosExchange$Row;", Cond.methodLink RX5 198 yX3_tryCall, Cond.instanceMethod yX3_tryCall, Cond.selects RX3 yX3_tryCall yX3_tryCall, Cond.initialized RX3, Cond.code yX3_tryCall cX3_tryCall 4 (some .int), Cond.methodLink RX3 37 yX1_isLine, Cond.instanceMethod yX1_isLine, Cond.selects RX1 yX1_isLine yX1_isLine, Cond.initialized RX1, Cond.code yX1_isLine cX1_isLine 2 (some .boolean), Cond.fieldLink RX1 9 "ClosExchange$Network" "boards" "I", Cond.fieldLink RX1 15 "ClosExchange$Network" "lines" "I", Cond.methodLink RX3 41 yX1_isInletBusy, Cond.instanceMethod yX1_isInletBusy, Cond.selects RX1 yX1_isInletBusy yX1_isInletBusy, Cond.code yX1_isInletBusy cX1_isInletBusy 2 (some .boolean), Cond.fieldLink RX1 29 "ClosExchange$Network" "numbers" "LClosExchange$Row;", Cond.methodLink RX1 77 yX4_get, Cond.instanceMethod yX4_get]
def wsX5_chainCall_r2 : List Cond := [Cond.selects RX4 yX4_get yX4_get, Cond.initialized RX4, Cond.code yX4_get cX4_get 2 (some .int), Cond.fieldLink RX4 15 "ClosExchange$Row" "cells" "[I", Cond.methodLink RX3 104 yX1_isOutletBusy, Cond.instanceMethod yX1_isOutletBusy, Cond.selects RX1 yX1_isOutletBusy yX1_isOutletBusy, Cond.code yX1_isOutletBusy cX1_isOutletBusy 2 (some .boolean), Cond.fieldLink RX1 39 "ClosExchange$Network" "inlets" "LClosExchange$Row;", Cond.methodLink RX3 107 yX3_findWay, Cond.instanceMethod yX3_findWay, Cond.selects RX3 yX3_findWay yX3_findWay, Cond.code yX3_findWay cX3_findWay 7 (some .int), Cond.fieldLink RX3 119 "ClosExchange$Router" "chainLength" "I", Cond.fieldLink RX3 125 "ClosExchange$Network" "firstLinks" "LClosExchange$Row;", Cond.fieldLink RX3 132 "ClosExchange$Network" "lastLinks" "LClosExchange$Row;", Cond.fieldLink RX3 143 "ClosExchange$Router" "pairP" "I", Cond.methodLink RX3 122 yX1_boardOf, Cond.instanceMethod yX1_boardOf, Cond.selects RX1 yX1_boardOf yX1_boardOf, Cond.code yX1_boardOf cX1_boardOf 2 (some .int), Cond.methodLink RX3 128 yX1_freeOnLinks, Cond.instanceMethod yX1_freeOnLinks, Cond.selects RX1 yX1_freeOnLinks yX1_freeOnLinks]
def wsX5_chainCall_r3 : List Cond := [Cond.code yX1_freeOnLinks cX1_freeOnLinks 5 (some .int), Cond.fieldLink RX1 18 "ClosExchange$Network" "middles" "I", Cond.fieldLink RX1 21 "ClosExchange$Network" "service" "I", Cond.static yX5_link, Cond.initialized RX5, Cond.code yX5_link cX5_link 2 (some .int), Cond.methodLink RX3 135 yX3_choose, Cond.instanceMethod yX3_choose, Cond.selects RX3 yX3_choose yX3_choose, Cond.code yX3_choose cX3_choose 8 (some .int), Cond.fieldLink RX3 146 "ClosExchange$Network" "choiceRule" "I", Cond.static yX5_hasBit, Cond.code yX5_hasBit cX5_hasBit 2 (some .boolean), Cond.methodLink RX3 149 yX1_loadOf, Cond.instanceMethod yX1_loadOf, Cond.selects RX1 yX1_loadOf yX1_loadOf, Cond.code yX1_loadOf cX1_loadOf 4 (some .int), Cond.fieldLink RX1 42 "ClosExchange$Network" "firstLinks" "LClosExchange$Row;", Cond.methodLink RX3 139 yX3_findPair, Cond.instanceMethod yX3_findPair, Cond.selects RX3 yX3_findPair yX3_findPair, Cond.code yX3_findPair cX3_findPair 11 none, Cond.fieldLink RX3 155 "ClosExchange$Network" "pairRule" "I", Cond.methodLink RX3 152 yX3_follow]
def wsX5_chainCall_r4 : List Cond := [Cond.instanceMethod yX3_follow, Cond.selects RX3 yX3_follow yX3_follow, Cond.code yX3_follow cX3_follow 9 none, Cond.fieldLink RX3 158 "ClosExchange$Router" "pairQ" "I", Cond.fieldLink RX3 14 "ClosExchange$Router" "chain" "LClosExchange$Row;", Cond.fieldLink RX3 113 "ClosExchange$Network" "outlets" "LClosExchange$Row;", Cond.methodLink RX3 47 yX4_get, Cond.methodLink RX3 164 yX4_set, Cond.instanceMethod yX4_set, Cond.selects RX4 yX4_set yX4_set, Cond.code yX4_set cX4_set 3 none, Cond.methodLink RX5 131 yX4_get]
def wsX5_chainCall : List Cond := .code yX5_chainCall cX5_chainCall 5 (some .int) :: ((wsX5_chainCall_r1 ++ (wsX5_chainCall_r2 ++ (wsX5_chainCall_r3 ++ wsX5_chainCall_r4))) ++ wsX50 ++ wsX30 ++ wsX10 ++ wsX40)
def wsX5_reason_r1 : List Cond := [Cond.fieldLink RX5 12 "ClosExchange" "network" "LClosExchange$Network;", Cond.fieldLink RX5 154 "ClosExchange$Network" "firstLinks" "LClosExchange$Row;", Cond.fieldLink RX5 161 "ClosExchange$Network" "lastLinks" "LClosExchange$Row;", Cond.methodLink RX5 124 yX1_isLine, Cond.instanceMethod yX1_isLine, Cond.selects RX1 yX1_isLine yX1_isLine, Cond.initialized RX1, Cond.code yX1_isLine cX1_isLine 2 (some .boolean), Cond.fieldLink RX1 9 "ClosExchange$Network" "boards" "I", Cond.fieldLink RX1 15 "ClosExchange$Network" "lines" "I", Cond.methodLink RX5 207 yX1_isInletBusy, Cond.instanceMethod yX1_isInletBusy, Cond.selects RX1 yX1_isInletBusy yX1_isInletBusy, Cond.code yX1_isInletBusy cX1_isInletBusy 2 (some .boolean), Cond.fieldLink RX1 29 "ClosExchange$Network" "numbers" "LClosExchange$Row;", Cond.methodLink RX1 77 yX4_get, Cond.instanceMethod yX4_get, Cond.selects RX4 yX4_get yX4_get, Cond.initialized RX4, Cond.code yX4_get cX4_get 2 (some .int), Cond.fieldLink RX4 15 "ClosExchange$Row" "cells" "[I", Cond.methodLink RX5 210 yX1_isOutletBusy, Cond.instanceMethod yX1_isOutletBusy, Cond.selects RX1 yX1_isOutletBusy yX1_isOutletBusy]
def wsX5_reason_r2 : List Cond := [Cond.code yX1_isOutletBusy cX1_isOutletBusy 2 (some .boolean), Cond.fieldLink RX1 39 "ClosExchange$Network" "inlets" "LClosExchange$Row;", Cond.methodLink RX5 213 yX1_boardOf, Cond.instanceMethod yX1_boardOf, Cond.selects RX1 yX1_boardOf yX1_boardOf, Cond.code yX1_boardOf cX1_boardOf 2 (some .int), Cond.methodLink RX5 167 yX1_freeOnLinks, Cond.instanceMethod yX1_freeOnLinks, Cond.selects RX1 yX1_freeOnLinks yX1_freeOnLinks, Cond.code yX1_freeOnLinks cX1_freeOnLinks 5 (some .int), Cond.fieldLink RX1 18 "ClosExchange$Network" "middles" "I", Cond.fieldLink RX1 21 "ClosExchange$Network" "service" "I", Cond.static yX5_link, Cond.initialized RX5, Cond.code yX5_link cX5_link 2 (some .int)]
def wsX5_reason : List Cond := .code yX5_reason cX5_reason 5 (some .int) :: ((wsX5_reason_r1 ++ wsX5_reason_r2) ++ wsX50 ++ wsX10 ++ wsX40)
def wsX5_leastMiddles_r1 : List Cond := [Cond.fieldLink RX5 12 "ClosExchange" "network" "LClosExchange$Network;", Cond.methodLink RX5 216 yX1_fullestBoard, Cond.instanceMethod yX1_fullestBoard, Cond.selects RX1 yX1_fullestBoard yX1_fullestBoard, Cond.initialized RX1, Cond.code yX1_fullestBoard cX1_fullestBoard 6 (some .int), Cond.fieldLink RX1 9 "ClosExchange$Network" "boards" "I", Cond.fieldLink RX1 15 "ClosExchange$Network" "lines" "I", Cond.methodLink RX1 92 Lib.Math.max.name, Cond.static Lib.Math.max.name, Cond.initialized "java/lang/Math", Cond.code Lib.Math.max.name Lib.Math.max.code 2 (some .int), Cond.methodLink RX1 85 yX1_isInletBusy, Cond.instanceMethod yX1_isInletBusy, Cond.selects RX1 yX1_isInletBusy yX1_isInletBusy, Cond.code yX1_isInletBusy cX1_isInletBusy 2 (some .boolean), Cond.fieldLink RX1 29 "ClosExchange$Network" "numbers" "LClosExchange$Row;", Cond.methodLink RX1 77 yX4_get, Cond.instanceMethod yX4_get, Cond.selects RX4 yX4_get yX4_get, Cond.initialized RX4, Cond.code yX4_get cX4_get 2 (some .int), Cond.fieldLink RX4 15 "ClosExchange$Row" "cells" "[I", Cond.methodLink RX1 89 yX1_isOutletBusy]
def wsX5_leastMiddles_r2 : List Cond := [Cond.instanceMethod yX1_isOutletBusy, Cond.selects RX1 yX1_isOutletBusy yX1_isOutletBusy, Cond.code yX1_isOutletBusy cX1_isOutletBusy 2 (some .boolean), Cond.fieldLink RX1 39 "ClosExchange$Network" "inlets" "LClosExchange$Row;"]
def wsX5_leastMiddles : List Cond := .code yX5_leastMiddles cX5_leastMiddles 1 (some .int) :: ((wsX5_leastMiddles_r1 ++ wsX5_leastMiddles_r2) ++ wsX50 ++ wsX10 ++ wsX40)
def wsX5_wouldDrop_r1 : List Cond := [Cond.fieldLink RX5 22 "ClosExchange" "trial" "LClosExchange$Network;", Cond.fieldLink RX5 12 "ClosExchange" "network" "LClosExchange$Network;", Cond.fieldLink RX5 28 "ClosExchange" "router" "LClosExchange$Router;", Cond.methodLink RX5 69 yX1_copyFrom, Cond.instanceMethod yX1_copyFrom, Cond.selects RX1 yX1_copyFrom yX1_copyFrom, Cond.initialized RX1, Cond.code yX1_copyFrom cX1_copyFrom 2 none, Cond.fieldLink RX1 9 "ClosExchange$Network" "boards" "I", Cond.fieldLink RX1 15 "ClosExchange$Network" "lines" "I", Cond.fieldLink RX1 18 "ClosExchange$Network" "middles" "I", Cond.fieldLink RX1 21 "ClosExchange$Network" "service" "I", Cond.fieldLink RX1 48 "ClosExchange$Network" "choiceRule" "I", Cond.fieldLink RX1 51 "ClosExchange$Network" "pairRule" "I", Cond.fieldLink RX1 54 "ClosExchange$Network" "connected" "I", Cond.fieldLink RX1 57 "ClosExchange$Network" "ended" "I", Cond.fieldLink RX1 60 "ClosExchange$Network" "dropped" "I", Cond.fieldLink RX1 63 "ClosExchange$Network" "moved" "I", Cond.fieldLink RX1 29 "ClosExchange$Network" "numbers" "LClosExchange$Row;", Cond.fieldLink RX1 33 "ClosExchange$Network" "outlets" "LClosExchange$Row;", Cond.fieldLink RX1 36 "ClosExchange$Network" "vias" "LClosExchange$Row;", Cond.fieldLink RX1 39 "ClosExchange$Network" "inlets" "LClosExchange$Row;", Cond.fieldLink RX1 42 "ClosExchange$Network" "firstLinks" "LClosExchange$Row;", Cond.fieldLink RX1 45 "ClosExchange$Network" "lastLinks" "LClosExchange$Row;"]
def wsX5_wouldDrop_r2 : List Cond := [Cond.methodLink RX1 66 yX4_copyFrom, Cond.instanceMethod yX4_copyFrom, Cond.selects RX4 yX4_copyFrom yX4_copyFrom, Cond.initialized RX4, Cond.code yX4_copyFrom cX4_copyFrom 2 none, Cond.fieldLink RX4 15 "ClosExchange$Row" "cells" "[I", Cond.methodLink RX4 27 Lib.Math.min.name, Cond.static Lib.Math.min.name, Cond.initialized "java/lang/Math", Cond.code Lib.Math.min.name Lib.Math.min.code 2 (some .int), Cond.methodLink RX4 30 arraycopyName, Cond.native arraycopyName, Cond.static arraycopyName, Cond.initialized "java/lang/System", Cond.methodLink RX5 84 yX3_retire, Cond.instanceMethod yX3_retire, Cond.selects RX3 yX3_retire yX3_retire, Cond.initialized RX3, Cond.code yX3_retire cX3_retire 4 (some .int), Cond.fieldLink RX3 61 "ClosExchange$Network" "service" "I", Cond.fieldLink RX3 68 "ClosExchange$Network" "vias" "LClosExchange$Row;", Cond.methodLink RX3 58 yX1_isMiddle, Cond.instanceMethod yX1_isMiddle, Cond.selects RX1 yX1_isMiddle yX1_isMiddle]
def wsX5_wouldDrop_r3 : List Cond := [Cond.code yX1_isMiddle cX1_isMiddle 2 (some .boolean), Cond.static yX5_hasBit, Cond.initialized RX5, Cond.code yX5_hasBit cX5_hasBit 2 (some .boolean), Cond.methodLink RX3 47 yX4_get, Cond.instanceMethod yX4_get, Cond.selects RX4 yX4_get yX4_get, Cond.code yX4_get cX4_get 2 (some .int), Cond.methodLink RX3 71 yX1_liftCall, Cond.instanceMethod yX1_liftCall, Cond.selects RX1 yX1_liftCall yX1_liftCall, Cond.code yX1_liftCall cX1_liftCall 3 none, Cond.methodLink RX1 77 yX4_get, Cond.methodLink RX1 104 yX1_boardOf, Cond.instanceMethod yX1_boardOf, Cond.selects RX1 yX1_boardOf yX1_boardOf, Cond.code yX1_boardOf cX1_boardOf 2 (some .int), Cond.static yX5_link, Cond.code yX5_link cX5_link 2 (some .int), Cond.methodLink RX1 97 yX4_set, Cond.instanceMethod yX4_set, Cond.selects RX4 yX4_set yX4_set, Cond.code yX4_set cX4_set 3 none, Cond.methodLink RX3 74 yX3_reroute]
def wsX5_wouldDrop_r4 : List Cond := [Cond.instanceMethod yX3_reroute, Cond.selects RX3 yX3_reroute yX3_reroute, Cond.code yX3_reroute cX3_reroute 6 (some .int), Cond.fieldLink RX3 113 "ClosExchange$Network" "outlets" "LClosExchange$Row;", Cond.fieldLink RX3 87 "ClosExchange$Network" "moved" "I", Cond.fieldLink RX3 116 "ClosExchange$Network" "dropped" "I", Cond.methodLink RX3 110 yX1_firstLifted, Cond.instanceMethod yX1_firstLifted, Cond.selects RX1 yX1_firstLifted yX1_firstLifted, Cond.code yX1_firstLifted cX1_firstLifted 3 (some .int), Cond.methodLink RX1 85 yX1_isInletBusy, Cond.instanceMethod yX1_isInletBusy, Cond.selects RX1 yX1_isInletBusy yX1_isInletBusy, Cond.code yX1_isInletBusy cX1_isInletBusy 2 (some .boolean), Cond.methodLink RX3 107 yX3_findWay, Cond.instanceMethod yX3_findWay, Cond.selects RX3 yX3_findWay yX3_findWay, Cond.code yX3_findWay cX3_findWay 7 (some .int), Cond.fieldLink RX3 119 "ClosExchange$Router" "chainLength" "I", Cond.fieldLink RX3 125 "ClosExchange$Network" "firstLinks" "LClosExchange$Row;", Cond.fieldLink RX3 132 "ClosExchange$Network" "lastLinks" "LClosExchange$Row;", Cond.fieldLink RX3 143 "ClosExchange$Router" "pairP" "I", Cond.methodLink RX3 122 yX1_boardOf, Cond.methodLink RX3 128 yX1_freeOnLinks]
def wsX5_wouldDrop_r5 : List Cond := [Cond.instanceMethod yX1_freeOnLinks, Cond.selects RX1 yX1_freeOnLinks yX1_freeOnLinks, Cond.code yX1_freeOnLinks cX1_freeOnLinks 5 (some .int), Cond.methodLink RX3 135 yX3_choose, Cond.instanceMethod yX3_choose, Cond.selects RX3 yX3_choose yX3_choose, Cond.code yX3_choose cX3_choose 8 (some .int), Cond.fieldLink RX3 146 "ClosExchange$Network" "choiceRule" "I", Cond.methodLink RX3 149 yX1_loadOf, Cond.instanceMethod yX1_loadOf, Cond.selects RX1 yX1_loadOf yX1_loadOf, Cond.code yX1_loadOf cX1_loadOf 4 (some .int), Cond.methodLink RX3 139 yX3_findPair, Cond.instanceMethod yX3_findPair, Cond.selects RX3 yX3_findPair yX3_findPair, Cond.code yX3_findPair cX3_findPair 11 none, Cond.fieldLink RX3 155 "ClosExchange$Network" "pairRule" "I", Cond.methodLink RX3 152 yX3_follow, Cond.instanceMethod yX3_follow, Cond.selects RX3 yX3_follow yX3_follow, Cond.code yX3_follow cX3_follow 9 none, Cond.fieldLink RX3 158 "ClosExchange$Router" "pairQ" "I", Cond.fieldLink RX3 14 "ClosExchange$Router" "chain" "LClosExchange$Row;", Cond.methodLink RX3 164 yX4_set]
def wsX5_wouldDrop_r6 : List Cond := [Cond.methodLink RX3 51 yX1_removeCall, Cond.instanceMethod yX1_removeCall, Cond.selects RX1 yX1_removeCall yX1_removeCall, Cond.code yX1_removeCall cX1_removeCall 2 none, Cond.methodLink RX1 101 yX1_liftCall, Cond.methodLink RX3 33 yX3_settle, Cond.instanceMethod yX3_settle, Cond.selects RX3 yX3_settle yX3_settle, Cond.code yX3_settle cX3_settle 5 none, Cond.methodLink RX3 167 yX1_carryCall, Cond.instanceMethod yX1_carryCall, Cond.selects RX1 yX1_carryCall yX1_carryCall, Cond.code yX1_carryCall cX1_carryCall 3 none]
def wsX5_wouldDrop : List Cond := .code yX5_wouldDrop cX5_wouldDrop 2 (some .int) :: ((wsX5_wouldDrop_r1 ++ (wsX5_wouldDrop_r2 ++ (wsX5_wouldDrop_r3 ++ (wsX5_wouldDrop_r4 ++ (wsX5_wouldDrop_r5 ++ wsX5_wouldDrop_r6))))) ++ wsX50 ++ wsX10 ++ wsX40 ++ wsX30)
def wsX5_reachable_r1 : List Cond := [Cond.fieldLink RX5 12 "ClosExchange" "network" "LClosExchange$Network;", Cond.fieldLink RX5 154 "ClosExchange$Network" "firstLinks" "LClosExchange$Row;", Cond.fieldLink RX5 161 "ClosExchange$Network" "lastLinks" "LClosExchange$Row;", Cond.methodLink RX5 124 yX1_isLine, Cond.instanceMethod yX1_isLine, Cond.selects RX1 yX1_isLine yX1_isLine, Cond.initialized RX1, Cond.code yX1_isLine cX1_isLine 2 (some .boolean), Cond.fieldLink RX1 9 "ClosExchange$Network" "boards" "I", Cond.fieldLink RX1 15 "ClosExchange$Network" "lines" "I", Cond.methodLink RX5 207 yX1_isInletBusy, Cond.instanceMethod yX1_isInletBusy, Cond.selects RX1 yX1_isInletBusy yX1_isInletBusy, Cond.code yX1_isInletBusy cX1_isInletBusy 2 (some .boolean), Cond.fieldLink RX1 29 "ClosExchange$Network" "numbers" "LClosExchange$Row;", Cond.methodLink RX1 77 yX4_get, Cond.instanceMethod yX4_get, Cond.selects RX4 yX4_get yX4_get, Cond.initialized RX4, Cond.code yX4_get cX4_get 2 (some .int), Cond.fieldLink RX4 15 "ClosExchange$Row" "cells" "[I", Cond.methodLink RX5 213 yX1_boardOf, Cond.instanceMethod yX1_boardOf, Cond.selects RX1 yX1_boardOf yX1_boardOf]
def wsX5_reachable_r2 : List Cond := [Cond.code yX1_boardOf cX1_boardOf 2 (some .int), Cond.methodLink RX5 167 yX1_freeOnLinks, Cond.instanceMethod yX1_freeOnLinks, Cond.selects RX1 yX1_freeOnLinks yX1_freeOnLinks, Cond.code yX1_freeOnLinks cX1_freeOnLinks 5 (some .int), Cond.fieldLink RX1 18 "ClosExchange$Network" "middles" "I", Cond.fieldLink RX1 21 "ClosExchange$Network" "service" "I", Cond.static yX5_link, Cond.initialized RX5, Cond.code yX5_link cX5_link 2 (some .int), Cond.methodLink RX5 210 yX1_isOutletBusy, Cond.instanceMethod yX1_isOutletBusy, Cond.selects RX1 yX1_isOutletBusy yX1_isOutletBusy, Cond.code yX1_isOutletBusy cX1_isOutletBusy 2 (some .boolean), Cond.fieldLink RX1 39 "ClosExchange$Network" "inlets" "LClosExchange$Row;"]
def wsX5_reachable : List Cond := .code yX5_reachable cX5_reachable 6 (some .int) :: ((wsX5_reachable_r1 ++ wsX5_reachable_r2) ++ wsX50 ++ wsX10 ++ wsX40)
def wsX6_lay : List Cond := .code yX6_lay cX6_lay 5 none :: ([.fieldLink RX6 7 "ClosExchangeModel" "s" "[I"] ++ wsX60)
def wsX6_builds : List Cond := .code yX6_builds cX6_builds 6 none :: ([.fieldLink RX6 7 "ClosExchangeModel" "s" "[I", .methodLink RX6 38 yX6_lay, .instanceMethod yX6_lay, .selects RX6 yX6_lay yX6_lay, .initialized RX6, .code yX6_lay cX6_lay 5 none] ++ wsX60)
def wsX6_init : List Cond := .code yX6_init cX6_init 1 none :: ([.methodLink RX6 1 objectInit, .instanceMethod objectInit, .code objectInit ⟨#[0xb1]⟩ 1 none, .arrayClass .int, .fieldLink RX6 7 "ClosExchangeModel" "s" "[I", .fieldLink RX6 13 "ClosExchangeModel" "text" "[I", .fieldLink RX6 16 "ClosExchangeModel" "chain" "[I", .fieldLink RX6 19 "ClosExchangeModel" "before" "[I", .methodLink RX6 22 yX6_builds, .instanceMethod yX6_builds, .selects RX6 yX6_builds yX6_builds, .initialized RX6, .code yX6_builds cX6_builds 6 none, .methodLink RX6 38 yX6_lay, .instanceMethod yX6_lay, .selects RX6 yX6_lay yX6_lay, .code yX6_lay cX6_lay 5 none] ++ wsX60)
def wsX6_in : List Cond := .code yX6_in cX6_in 3 (some .boolean) :: ([])
def wsX6_has : List Cond := .code yX6_has cX6_has 2 (some .boolean) :: ([])
def wsX6_lowest : List Cond := .code yX6_lowest cX6_lowest 2 (some .int) :: ([.methodLink RX6 26 yX6_has, .static yX6_has, .initialized RX6, .code yX6_has cX6_has 2 (some .boolean)])
def wsX6_bits : List Cond := .code yX6_bits cX6_bits 3 (some .int) :: ([])
def wsX6_of : List Cond := .code yX6_of cX6_of 4 (some .int) :: ([.fieldLink RX6 7 "ClosExchangeModel" "s" "[I"] ++ wsX60)
def wsX6_lines : List Cond := .code yX6_lines cX6_lines 2 (some .int) :: ([.fieldLink RX6 7 "ClosExchangeModel" "s" "[I"] ++ wsX60)
def wsX6_isLine : List Cond := .code yX6_isLine cX6_isLine 3 (some .boolean) :: ([.methodLink RX6 30 yX6_lines, .instanceMethod yX6_lines, .selects RX6 yX6_lines yX6_lines, .initialized RX6, .code yX6_lines cX6_lines 2 (some .int), .fieldLink RX6 7 "ClosExchangeModel" "s" "[I", .methodLink RX6 34 yX6_in, .static yX6_in, .code yX6_in cX6_in 3 (some .boolean)] ++ wsX60)
def wsX6_isBoard : List Cond := .code yX6_isBoard cX6_isBoard 2 (some .boolean) :: ([.fieldLink RX6 7 "ClosExchangeModel" "s" "[I", .methodLink RX6 34 yX6_in, .static yX6_in, .initialized RX6, .code yX6_in cX6_in 3 (some .boolean)] ++ wsX60)
def wsX6_isMiddle : List Cond := .code yX6_isMiddle cX6_isMiddle 3 (some .boolean) :: ([.fieldLink RX6 7 "ClosExchangeModel" "s" "[I", .methodLink RX6 34 yX6_in, .static yX6_in, .initialized RX6, .code yX6_in cX6_in 3 (some .boolean)] ++ wsX60)
def wsX6_calls : List Cond := .code yX6_calls cX6_calls 4 (some .int) :: ([.methodLink RX6 30 yX6_lines, .instanceMethod yX6_lines, .selects RX6 yX6_lines yX6_lines, .initialized RX6, .code yX6_lines cX6_lines 2 (some .int), .fieldLink RX6 7 "ClosExchangeModel" "s" "[I", .methodLink RX6 41 yX6_of, .instanceMethod yX6_of, .selects RX6 yX6_of yX6_of, .code yX6_of cX6_of 4 (some .int)] ++ wsX60)
def wsX6_inletTo : List Cond := .code yX6_inletTo cX6_inletTo 4 (some .int) :: ([.methodLink RX6 30 yX6_lines, .instanceMethod yX6_lines, .selects RX6 yX6_lines yX6_lines, .initialized RX6, .code yX6_lines cX6_lines 2 (some .int), .fieldLink RX6 7 "ClosExchangeModel" "s" "[I", .methodLink RX6 41 yX6_of, .instanceMethod yX6_of, .selects RX6 yX6_of yX6_of, .code yX6_of cX6_of 4 (some .int)] ++ wsX60)
def wsX6_onFirst : List Cond := .code yX6_onFirst cX6_onFirst 5 (some .int) :: ([.fieldLink RX6 7 "ClosExchangeModel" "s" "[I", .methodLink RX6 30 yX6_lines, .instanceMethod yX6_lines, .selects RX6 yX6_lines yX6_lines, .initialized RX6, .code yX6_lines cX6_lines 2 (some .int), .methodLink RX6 41 yX6_of, .instanceMethod yX6_of, .selects RX6 yX6_of yX6_of, .code yX6_of cX6_of 4 (some .int)] ++ wsX60)
def wsX6_onLast : List Cond := .code yX6_onLast cX6_onLast 5 (some .int) :: ([.fieldLink RX6 7 "ClosExchangeModel" "s" "[I", .methodLink RX6 30 yX6_lines, .instanceMethod yX6_lines, .selects RX6 yX6_lines yX6_lines, .initialized RX6, .code yX6_lines cX6_lines 2 (some .int), .methodLink RX6 41 yX6_of, .instanceMethod yX6_of, .selects RX6 yX6_of yX6_of, .code yX6_of cX6_of 4 (some .int)] ++ wsX60)
def wsX6_loadOf : List Cond := .code yX6_loadOf cX6_loadOf 5 (some .int) :: ([.methodLink RX6 30 yX6_lines, .instanceMethod yX6_lines, .selects RX6 yX6_lines yX6_lines, .initialized RX6, .code yX6_lines cX6_lines 2 (some .int), .fieldLink RX6 7 "ClosExchangeModel" "s" "[I", .methodLink RX6 41 yX6_of, .instanceMethod yX6_of, .selects RX6 yX6_of yX6_of, .code yX6_of cX6_of 4 (some .int)] ++ wsX60)
def wsX6_freeAhead : List Cond := .code yX6_freeAhead cX6_freeAhead 5 (some .int) :: ([.fieldLink RX6 7 "ClosExchangeModel" "s" "[I", .methodLink RX6 26 yX6_has, .static yX6_has, .initialized RX6, .code yX6_has cX6_has 2 (some .boolean), .methodLink RX6 45 yX6_onFirst, .instanceMethod yX6_onFirst, .selects RX6 yX6_onFirst yX6_onFirst, .code yX6_onFirst cX6_onFirst 5 (some .int), .methodLink RX6 30 yX6_lines, .instanceMethod yX6_lines, .selects RX6 yX6_lines yX6_lines, .code yX6_lines cX6_lines 2 (some .int), .methodLink RX6 41 yX6_of, .instanceMethod yX6_of, .selects RX6 yX6_of yX6_of, .code yX6_of cX6_of 4 (some .int)] ++ wsX60)
def wsX6_freeBehind : List Cond := .code yX6_freeBehind cX6_freeBehind 5 (some .int) :: ([.fieldLink RX6 7 "ClosExchangeModel" "s" "[I", .methodLink RX6 26 yX6_has, .static yX6_has, .initialized RX6, .code yX6_has cX6_has 2 (some .boolean), .methodLink RX6 48 yX6_onLast, .instanceMethod yX6_onLast, .selects RX6 yX6_onLast yX6_onLast, .code yX6_onLast cX6_onLast 5 (some .int), .methodLink RX6 30 yX6_lines, .instanceMethod yX6_lines, .selects RX6 yX6_lines yX6_lines, .code yX6_lines cX6_lines 2 (some .int), .methodLink RX6 41 yX6_of, .instanceMethod yX6_of, .selects RX6 yX6_of yX6_of, .code yX6_of cX6_of 4 (some .int)] ++ wsX60)
def wsX6_chosen : List Cond := .code yX6_chosen cX6_chosen 7 (some .int) :: ([.fieldLink RX6 7 "ClosExchangeModel" "s" "[I", .methodLink RX6 51 yX6_lowest, .static yX6_lowest, .initialized RX6, .code yX6_lowest cX6_lowest 2 (some .int), .methodLink RX6 26 yX6_has, .static yX6_has, .code yX6_has cX6_has 2 (some .boolean), .methodLink RX6 54 yX6_loadOf, .instanceMethod yX6_loadOf, .selects RX6 yX6_loadOf yX6_loadOf, .code yX6_loadOf cX6_loadOf 5 (some .int), .methodLink RX6 30 yX6_lines, .instanceMethod yX6_lines, .selects RX6 yX6_lines yX6_lines, .code yX6_lines cX6_lines 2 (some .int), .methodLink RX6 41 yX6_of, .instanceMethod yX6_of, .selects RX6 yX6_of yX6_of, .code yX6_of cX6_of 4 (some .int)] ++ wsX60)
def wsX6_lays : List Cond := .code yX6_lays cX6_lays 8 (some .int) :: ([.fieldLink RX6 16 "ClosExchangeModel" "chain" "[I", .fieldLink RX6 7 "ClosExchangeModel" "s" "[I", .methodLink RX6 48 yX6_onLast, .instanceMethod yX6_onLast, .selects RX6 yX6_onLast yX6_onLast, .initialized RX6, .code yX6_onLast cX6_onLast 5 (some .int), .methodLink RX6 30 yX6_lines, .instanceMethod yX6_lines, .selects RX6 yX6_lines yX6_lines, .code yX6_lines cX6_lines 2 (some .int), .methodLink RX6 41 yX6_of, .instanceMethod yX6_of, .selects RX6 yX6_of yX6_of, .code yX6_of cX6_of 4 (some .int), .methodLink RX6 45 yX6_onFirst, .instanceMethod yX6_onFirst, .selects RX6 yX6_onFirst yX6_onFirst, .code yX6_onFirst cX6_onFirst 5 (some .int)] ++ wsX60)
def wsX6_pairOf_r1 : List Cond := [Cond.fieldLink RX6 7 "ClosExchangeModel" "s" "[I", Cond.methodLink RX6 51 yX6_lowest, Cond.static yX6_lowest, Cond.initialized RX6, Cond.code yX6_lowest cX6_lowest 2 (some .int), Cond.methodLink RX6 26 yX6_has, Cond.static yX6_has, Cond.code yX6_has cX6_has 2 (some .boolean), Cond.methodLink RX6 58 yX6_lays, Cond.instanceMethod yX6_lays, Cond.selects RX6 yX6_lays yX6_lays, Cond.code yX6_lays cX6_lays 8 (some .int), Cond.fieldLink RX6 16 "ClosExchangeModel" "chain" "[I", Cond.methodLink RX6 48 yX6_onLast, Cond.instanceMethod yX6_onLast, Cond.selects RX6 yX6_onLast yX6_onLast, Cond.code yX6_onLast cX6_onLast 5 (some .int), Cond.methodLink RX6 30 yX6_lines, Cond.instanceMethod yX6_lines, Cond.selects RX6 yX6_lines yX6_lines, Cond.code yX6_lines cX6_lines 2 (some .int), Cond.methodLink RX6 41 yX6_of, Cond.instanceMethod yX6_of, Cond.selects RX6 yX6_of yX6_of]
def wsX6_pairOf_r2 : List Cond := [Cond.code yX6_of cX6_of 4 (some .int), Cond.methodLink RX6 45 yX6_onFirst, Cond.instanceMethod yX6_onFirst, Cond.selects RX6 yX6_onFirst yX6_onFirst, Cond.code yX6_onFirst cX6_onFirst 5 (some .int)]
def wsX6_pairOf : List Cond := .code yX6_pairOf cX6_pairOf 10 (some .int) :: ((wsX6_pairOf_r1 ++ wsX6_pairOf_r2) ++ wsX60)
def wsX6_routes_r1 : List Cond := [Cond.fieldLink RX6 7 "ClosExchangeModel" "s" "[I", Cond.fieldLink RX6 68 "ClosExchangeModel" "chained" "I", Cond.fieldLink RX6 16 "ClosExchangeModel" "chain" "[I", Cond.methodLink RX6 41 yX6_of, Cond.instanceMethod yX6_of, Cond.selects RX6 yX6_of yX6_of, Cond.initialized RX6, Cond.code yX6_of cX6_of 4 (some .int), Cond.methodLink RX6 62 yX6_freeAhead, Cond.instanceMethod yX6_freeAhead, Cond.selects RX6 yX6_freeAhead yX6_freeAhead, Cond.code yX6_freeAhead cX6_freeAhead 5 (some .int), Cond.methodLink RX6 26 yX6_has, Cond.static yX6_has, Cond.code yX6_has cX6_has 2 (some .boolean), Cond.methodLink RX6 45 yX6_onFirst, Cond.instanceMethod yX6_onFirst, Cond.selects RX6 yX6_onFirst yX6_onFirst, Cond.code yX6_onFirst cX6_onFirst 5 (some .int), Cond.methodLink RX6 30 yX6_lines, Cond.instanceMethod yX6_lines, Cond.selects RX6 yX6_lines yX6_lines, Cond.code yX6_lines cX6_lines 2 (some .int), Cond.methodLink RX6 65 yX6_freeBehind]
def wsX6_routes_r2 : List Cond := [Cond.instanceMethod yX6_freeBehind, Cond.selects RX6 yX6_freeBehind yX6_freeBehind, Cond.code yX6_freeBehind cX6_freeBehind 5 (some .int), Cond.methodLink RX6 48 yX6_onLast, Cond.instanceMethod yX6_onLast, Cond.selects RX6 yX6_onLast yX6_onLast, Cond.code yX6_onLast cX6_onLast 5 (some .int), Cond.methodLink RX6 72 yX6_chosen, Cond.instanceMethod yX6_chosen, Cond.selects RX6 yX6_chosen yX6_chosen, Cond.code yX6_chosen cX6_chosen 7 (some .int), Cond.methodLink RX6 51 yX6_lowest, Cond.static yX6_lowest, Cond.code yX6_lowest cX6_lowest 2 (some .int), Cond.methodLink RX6 54 yX6_loadOf, Cond.instanceMethod yX6_loadOf, Cond.selects RX6 yX6_loadOf yX6_loadOf, Cond.code yX6_loadOf cX6_loadOf 5 (some .int), Cond.methodLink RX6 38 yX6_lay, Cond.instanceMethod yX6_lay, Cond.selects RX6 yX6_lay yX6_lay, Cond.code yX6_lay cX6_lay 5 none, Cond.methodLink RX6 75 yX6_pairOf, Cond.instanceMethod yX6_pairOf]
def wsX6_routes_r3 : List Cond := [Cond.selects RX6 yX6_pairOf yX6_pairOf, Cond.code yX6_pairOf cX6_pairOf 10 (some .int), Cond.methodLink RX6 58 yX6_lays, Cond.instanceMethod yX6_lays, Cond.selects RX6 yX6_lays yX6_lays, Cond.code yX6_lays cX6_lays 8 (some .int)]
def wsX6_routes : List Cond := .code yX6_routes cX6_routes 9 (some .int) :: ((wsX6_routes_r1 ++ (wsX6_routes_r2 ++ wsX6_routes_r3)) ++ wsX60)
def wsX6_nextOff : List Cond := .code yX6_nextOff cX6_nextOff 5 (some .int) :: ([.methodLink RX6 30 yX6_lines, .instanceMethod yX6_lines, .selects RX6 yX6_lines yX6_lines, .initialized RX6, .code yX6_lines cX6_lines 2 (some .int), .fieldLink RX6 7 "ClosExchangeModel" "s" "[I", .methodLink RX6 41 yX6_of, .instanceMethod yX6_of, .selects RX6 yX6_of yX6_of, .code yX6_of cX6_of 4 (some .int)] ++ wsX60)
def wsX6_connects_r1 : List Cond := [Cond.fieldLink RX6 7 "ClosExchangeModel" "s" "[I", Cond.methodLink RX6 78 yX6_isLine, Cond.instanceMethod yX6_isLine, Cond.selects RX6 yX6_isLine yX6_isLine, Cond.initialized RX6, Cond.code yX6_isLine cX6_isLine 3 (some .boolean), Cond.methodLink RX6 30 yX6_lines, Cond.instanceMethod yX6_lines, Cond.selects RX6 yX6_lines yX6_lines, Cond.code yX6_lines cX6_lines 2 (some .int), Cond.methodLink RX6 34 yX6_in, Cond.static yX6_in, Cond.code yX6_in cX6_in 3 (some .boolean), Cond.methodLink RX6 41 yX6_of, Cond.instanceMethod yX6_of, Cond.selects RX6 yX6_of yX6_of, Cond.code yX6_of cX6_of 4 (some .int), Cond.methodLink RX6 81 yX6_inletTo, Cond.instanceMethod yX6_inletTo, Cond.selects RX6 yX6_inletTo yX6_inletTo, Cond.code yX6_inletTo cX6_inletTo 4 (some .int), Cond.methodLink RX6 38 yX6_lay, Cond.instanceMethod yX6_lay, Cond.selects RX6 yX6_lay yX6_lay]
def wsX6_connects_r2 : List Cond := [Cond.code yX6_lay cX6_lay 5 none, Cond.methodLink RX6 84 yX6_routes, Cond.instanceMethod yX6_routes, Cond.selects RX6 yX6_routes yX6_routes, Cond.code yX6_routes cX6_routes 9 (some .int), Cond.fieldLink RX6 68 "ClosExchangeModel" "chained" "I", Cond.fieldLink RX6 16 "ClosExchangeModel" "chain" "[I", Cond.methodLink RX6 62 yX6_freeAhead, Cond.instanceMethod yX6_freeAhead, Cond.selects RX6 yX6_freeAhead yX6_freeAhead, Cond.code yX6_freeAhead cX6_freeAhead 5 (some .int), Cond.methodLink RX6 26 yX6_has, Cond.static yX6_has, Cond.code yX6_has cX6_has 2 (some .boolean), Cond.methodLink RX6 45 yX6_onFirst, Cond.instanceMethod yX6_onFirst, Cond.selects RX6 yX6_onFirst yX6_onFirst, Cond.code yX6_onFirst cX6_onFirst 5 (some .int), Cond.methodLink RX6 65 yX6_freeBehind, Cond.instanceMethod yX6_freeBehind, Cond.selects RX6 yX6_freeBehind yX6_freeBehind, Cond.code yX6_freeBehind cX6_freeBehind 5 (some .int), Cond.methodLink RX6 48 yX6_onLast, Cond.instanceMethod yX6_onLast]
def wsX6_connects_r3 : List Cond := [Cond.selects RX6 yX6_onLast yX6_onLast, Cond.code yX6_onLast cX6_onLast 5 (some .int), Cond.methodLink RX6 72 yX6_chosen, Cond.instanceMethod yX6_chosen, Cond.selects RX6 yX6_chosen yX6_chosen, Cond.code yX6_chosen cX6_chosen 7 (some .int), Cond.methodLink RX6 51 yX6_lowest, Cond.static yX6_lowest, Cond.code yX6_lowest cX6_lowest 2 (some .int), Cond.methodLink RX6 54 yX6_loadOf, Cond.instanceMethod yX6_loadOf, Cond.selects RX6 yX6_loadOf yX6_loadOf, Cond.code yX6_loadOf cX6_loadOf 5 (some .int), Cond.methodLink RX6 75 yX6_pairOf, Cond.instanceMethod yX6_pairOf, Cond.selects RX6 yX6_pairOf yX6_pairOf, Cond.code yX6_pairOf cX6_pairOf 10 (some .int), Cond.methodLink RX6 58 yX6_lays, Cond.instanceMethod yX6_lays, Cond.selects RX6 yX6_lays yX6_lays, Cond.code yX6_lays cX6_lays 8 (some .int)]
def wsX6_connects : List Cond := .code yX6_connects cX6_connects 4 (some .int) :: ((wsX6_connects_r1 ++ (wsX6_connects_r2 ++ wsX6_connects_r3)) ++ wsX60)
def wsX6_disconnects : List Cond := .code yX6_disconnects cX6_disconnects 4 (some .int) :: ([.fieldLink RX6 7 "ClosExchangeModel" "s" "[I", .methodLink RX6 78 yX6_isLine, .instanceMethod yX6_isLine, .selects RX6 yX6_isLine yX6_isLine, .initialized RX6, .code yX6_isLine cX6_isLine 3 (some .boolean), .methodLink RX6 30 yX6_lines, .instanceMethod yX6_lines, .selects RX6 yX6_lines yX6_lines, .code yX6_lines cX6_lines 2 (some .int), .methodLink RX6 34 yX6_in, .static yX6_in, .code yX6_in cX6_in 3 (some .boolean), .methodLink RX6 41 yX6_of, .instanceMethod yX6_of, .selects RX6 yX6_of yX6_of, .code yX6_of cX6_of 4 (some .int), .methodLink RX6 38 yX6_lay, .instanceMethod yX6_lay, .selects RX6 yX6_lay yX6_lay, .code yX6_lay cX6_lay 5 none] ++ wsX60)
def wsX6_takesOut_r1 : List Cond := [Cond.fieldLink RX6 7 "ClosExchangeModel" "s" "[I", Cond.methodLink RX6 87 yX6_isMiddle, Cond.instanceMethod yX6_isMiddle, Cond.selects RX6 yX6_isMiddle yX6_isMiddle, Cond.initialized RX6, Cond.code yX6_isMiddle cX6_isMiddle 3 (some .boolean), Cond.methodLink RX6 34 yX6_in, Cond.static yX6_in, Cond.code yX6_in cX6_in 3 (some .boolean), Cond.methodLink RX6 26 yX6_has, Cond.static yX6_has, Cond.code yX6_has cX6_has 2 (some .boolean), Cond.methodLink RX6 30 yX6_lines, Cond.instanceMethod yX6_lines, Cond.selects RX6 yX6_lines yX6_lines, Cond.code yX6_lines cX6_lines 2 (some .int), Cond.methodLink RX6 41 yX6_of, Cond.instanceMethod yX6_of, Cond.selects RX6 yX6_of yX6_of, Cond.code yX6_of cX6_of 4 (some .int), Cond.methodLink RX6 38 yX6_lay, Cond.instanceMethod yX6_lay, Cond.selects RX6 yX6_lay yX6_lay, Cond.code yX6_lay cX6_lay 5 none]
def wsX6_takesOut_r2 : List Cond := [Cond.methodLink RX6 90 yX6_nextOff, Cond.instanceMethod yX6_nextOff, Cond.selects RX6 yX6_nextOff yX6_nextOff, Cond.code yX6_nextOff cX6_nextOff 5 (some .int), Cond.methodLink RX6 84 yX6_routes, Cond.instanceMethod yX6_routes, Cond.selects RX6 yX6_routes yX6_routes, Cond.code yX6_routes cX6_routes 9 (some .int), Cond.fieldLink RX6 68 "ClosExchangeModel" "chained" "I", Cond.fieldLink RX6 16 "ClosExchangeModel" "chain" "[I", Cond.methodLink RX6 62 yX6_freeAhead, Cond.instanceMethod yX6_freeAhead, Cond.selects RX6 yX6_freeAhead yX6_freeAhead, Cond.code yX6_freeAhead cX6_freeAhead 5 (some .int), Cond.methodLink RX6 45 yX6_onFirst, Cond.instanceMethod yX6_onFirst, Cond.selects RX6 yX6_onFirst yX6_onFirst, Cond.code yX6_onFirst cX6_onFirst 5 (some .int), Cond.methodLink RX6 65 yX6_freeBehind, Cond.instanceMethod yX6_freeBehind, Cond.selects RX6 yX6_freeBehind yX6_freeBehind, Cond.code yX6_freeBehind cX6_freeBehind 5 (some .int), Cond.methodLink RX6 48 yX6_onLast, Cond.instanceMethod yX6_onLast]
def wsX6_takesOut_r3 : List Cond := [Cond.selects RX6 yX6_onLast yX6_onLast, Cond.code yX6_onLast cX6_onLast 5 (some .int), Cond.methodLink RX6 72 yX6_chosen, Cond.instanceMethod yX6_chosen, Cond.selects RX6 yX6_chosen yX6_chosen, Cond.code yX6_chosen cX6_chosen 7 (some .int), Cond.methodLink RX6 51 yX6_lowest, Cond.static yX6_lowest, Cond.code yX6_lowest cX6_lowest 2 (some .int), Cond.methodLink RX6 54 yX6_loadOf, Cond.instanceMethod yX6_loadOf, Cond.selects RX6 yX6_loadOf yX6_loadOf, Cond.code yX6_loadOf cX6_loadOf 5 (some .int), Cond.methodLink RX6 75 yX6_pairOf, Cond.instanceMethod yX6_pairOf, Cond.selects RX6 yX6_pairOf yX6_pairOf, Cond.code yX6_pairOf cX6_pairOf 10 (some .int), Cond.methodLink RX6 58 yX6_lays, Cond.instanceMethod yX6_lays, Cond.selects RX6 yX6_lays yX6_lays, Cond.code yX6_lays cX6_lays 8 (some .int)]
def wsX6_takesOut : List Cond := .code yX6_takesOut cX6_takesOut 5 (some .int) :: ((wsX6_takesOut_r1 ++ (wsX6_takesOut_r2 ++ wsX6_takesOut_r3)) ++ wsX60)
def wsX6_putsBack : List Cond := .code yX6_putsBack cX6_putsBack 3 (some .int) :: ([.fieldLink RX6 7 "ClosExchangeModel" "s" "[I", .methodLink RX6 87 yX6_isMiddle, .instanceMethod yX6_isMiddle, .selects RX6 yX6_isMiddle yX6_isMiddle, .initialized RX6, .code yX6_isMiddle cX6_isMiddle 3 (some .boolean), .methodLink RX6 34 yX6_in, .static yX6_in, .code yX6_in cX6_in 3 (some .boolean), .methodLink RX6 26 yX6_has, .static yX6_has, .code yX6_has cX6_has 2 (some .boolean), .methodLink RX6 93 yX6_bits, .static yX6_bits, .code yX6_bits cX6_bits 3 (some .int)] ++ wsX60)
def wsX6_least : List Cond := .code yX6_least cX6_least 8 (some .int) :: ([.fieldLink RX6 7 "ClosExchangeModel" "s" "[I", .methodLink RX6 30 yX6_lines, .instanceMethod yX6_lines, .selects RX6 yX6_lines yX6_lines, .initialized RX6, .code yX6_lines cX6_lines 2 (some .int), .methodLink RX6 41 yX6_of, .instanceMethod yX6_of, .selects RX6 yX6_of yX6_of, .code yX6_of cX6_of 4 (some .int)] ++ wsX60)
def wsX6_packs_r1 : List Cond := [Cond.fieldLink RX6 7 "ClosExchangeModel" "s" "[I", Cond.fieldLink RX6 19 "ClosExchangeModel" "before" "[I", Cond.methodLink RX6 96 yX6_calls, Cond.instanceMethod yX6_calls, Cond.selects RX6 yX6_calls yX6_calls, Cond.initialized RX6, Cond.code yX6_calls cX6_calls 4 (some .int), Cond.methodLink RX6 30 yX6_lines, Cond.instanceMethod yX6_lines, Cond.selects RX6 yX6_lines yX6_lines, Cond.code yX6_lines cX6_lines 2 (some .int), Cond.methodLink RX6 41 yX6_of, Cond.instanceMethod yX6_of, Cond.selects RX6 yX6_of yX6_of, Cond.code yX6_of cX6_of 4 (some .int), Cond.methodLink RX6 99 yX6_least, Cond.instanceMethod yX6_least, Cond.selects RX6 yX6_least yX6_least, Cond.code yX6_least cX6_least 8 (some .int), Cond.methodLink RX6 26 yX6_has, Cond.static yX6_has, Cond.code yX6_has cX6_has 2 (some .boolean), Cond.methodLink RX6 93 yX6_bits, Cond.static yX6_bits]
def wsX6_packs_r2 : List Cond := [Cond.code yX6_bits cX6_bits 3 (some .int), Cond.methodLink RX6 38 yX6_lay, Cond.instanceMethod yX6_lay, Cond.selects RX6 yX6_lay yX6_lay, Cond.code yX6_lay cX6_lay 5 none, Cond.methodLink RX6 90 yX6_nextOff, Cond.instanceMethod yX6_nextOff, Cond.selects RX6 yX6_nextOff yX6_nextOff, Cond.code yX6_nextOff cX6_nextOff 5 (some .int), Cond.methodLink RX6 84 yX6_routes, Cond.instanceMethod yX6_routes, Cond.selects RX6 yX6_routes yX6_routes, Cond.code yX6_routes cX6_routes 9 (some .int), Cond.fieldLink RX6 68 "ClosExchangeModel" "chained" "I", Cond.fieldLink RX6 16 "ClosExchangeModel" "chain" "[I", Cond.methodLink RX6 62 yX6_freeAhead, Cond.instanceMethod yX6_freeAhead, Cond.selects RX6 yX6_freeAhead yX6_freeAhead, Cond.code yX6_freeAhead cX6_freeAhead 5 (some .int), Cond.methodLink RX6 45 yX6_onFirst, Cond.instanceMethod yX6_onFirst, Cond.selects RX6 yX6_onFirst yX6_onFirst, Cond.code yX6_onFirst cX6_onFirst 5 (some .int), Cond.methodLink RX6 65 yX6_freeBehind]
def wsX6_packs_r3 : List Cond := [Cond.instanceMethod yX6_freeBehind, Cond.selects RX6 yX6_freeBehind yX6_freeBehind, Cond.code yX6_freeBehind cX6_freeBehind 5 (some .int), Cond.methodLink RX6 48 yX6_onLast, Cond.instanceMethod yX6_onLast, Cond.selects RX6 yX6_onLast yX6_onLast, Cond.code yX6_onLast cX6_onLast 5 (some .int), Cond.methodLink RX6 72 yX6_chosen, Cond.instanceMethod yX6_chosen, Cond.selects RX6 yX6_chosen yX6_chosen, Cond.code yX6_chosen cX6_chosen 7 (some .int), Cond.methodLink RX6 51 yX6_lowest, Cond.static yX6_lowest, Cond.code yX6_lowest cX6_lowest 2 (some .int), Cond.methodLink RX6 54 yX6_loadOf, Cond.instanceMethod yX6_loadOf, Cond.selects RX6 yX6_loadOf yX6_loadOf, Cond.code yX6_loadOf cX6_loadOf 5 (some .int), Cond.methodLink RX6 75 yX6_pairOf, Cond.instanceMethod yX6_pairOf, Cond.selects RX6 yX6_pairOf yX6_pairOf, Cond.code yX6_pairOf cX6_pairOf 10 (some .int), Cond.methodLink RX6 58 yX6_lays, Cond.instanceMethod yX6_lays]
def wsX6_packs_r4 : List Cond := [Cond.selects RX6 yX6_lays yX6_lays, Cond.code yX6_lays cX6_lays 8 (some .int)]
def wsX6_packs : List Cond := .code yX6_packs cX6_packs 8 (some .int) :: ((wsX6_packs_r1 ++ (wsX6_packs_r2 ++ (wsX6_packs_r3 ++ wsX6_packs_r4))) ++ wsX60)
def wsX6_copies : List Cond := .code yX6_copies cX6_copies 4 none :: ([.fieldLink RX6 7 "ClosExchangeModel" "s" "[I"] ++ wsX60)
def wsX6_accepts : List Cond := .code yX6_accepts cX6_accepts 3 (some .int) :: ([.fieldLink RX6 102 "ClosExchangeModel" "states" "I", .methodLink RX6 105 yX6_copies, .instanceMethod yX6_copies, .selects RX6 yX6_copies yX6_copies, .initialized RX6, .code yX6_copies cX6_copies 4 none, .fieldLink RX6 7 "ClosExchangeModel" "s" "[I"] ++ wsX60)
def wsX6_setUp_r1 : List Cond := [Cond.fieldLink RX6 7 "ClosExchangeModel" "s" "[I", Cond.methodLink RX6 34 yX6_in, Cond.static yX6_in, Cond.initialized RX6, Cond.code yX6_in cX6_in 3 (some .boolean), Cond.methodLink RX6 105 yX6_copies, Cond.instanceMethod yX6_copies, Cond.selects RX6 yX6_copies yX6_copies, Cond.code yX6_copies cX6_copies 4 none, Cond.methodLink RX6 96 yX6_calls, Cond.instanceMethod yX6_calls, Cond.selects RX6 yX6_calls yX6_calls, Cond.code yX6_calls cX6_calls 4 (some .int), Cond.methodLink RX6 30 yX6_lines, Cond.instanceMethod yX6_lines, Cond.selects RX6 yX6_lines yX6_lines, Cond.code yX6_lines cX6_lines 2 (some .int), Cond.methodLink RX6 41 yX6_of, Cond.instanceMethod yX6_of, Cond.selects RX6 yX6_of yX6_of, Cond.code yX6_of cX6_of 4 (some .int), Cond.methodLink RX6 22 yX6_builds, Cond.instanceMethod yX6_builds, Cond.selects RX6 yX6_builds yX6_builds]
def wsX6_setUp_r2 : List Cond := [Cond.code yX6_builds cX6_builds 6 none, Cond.methodLink RX6 38 yX6_lay, Cond.instanceMethod yX6_lay, Cond.selects RX6 yX6_lay yX6_lay, Cond.code yX6_lay cX6_lay 5 none, Cond.methodLink RX6 109 yX6_accepts, Cond.instanceMethod yX6_accepts, Cond.selects RX6 yX6_accepts yX6_accepts, Cond.code yX6_accepts cX6_accepts 3 (some .int), Cond.fieldLink RX6 102 "ClosExchangeModel" "states" "I"]
def wsX6_setUp : List Cond := .code yX6_setUp cX6_setUp 5 (some .int) :: ((wsX6_setUp_r1 ++ wsX6_setUp_r2) ++ wsX60)
def wsX6_rules : List Cond := .code yX6_rules cX6_rules 5 (some .int) :: ([.fieldLink RX6 7 "ClosExchangeModel" "s" "[I", .methodLink RX6 34 yX6_in, .static yX6_in, .initialized RX6, .code yX6_in cX6_in 3 (some .boolean), .methodLink RX6 105 yX6_copies, .instanceMethod yX6_copies, .selects RX6 yX6_copies yX6_copies, .code yX6_copies cX6_copies 4 none, .methodLink RX6 109 yX6_accepts, .instanceMethod yX6_accepts, .selects RX6 yX6_accepts yX6_accepts, .code yX6_accepts cX6_accepts 3 (some .int), .fieldLink RX6 102 "ClosExchangeModel" "states" "I"] ++ wsX60)
def wsX6_setChoiceRule : List Cond := .code yX6_setChoiceRule cX6_setChoiceRule 2 (some .int) :: ([.methodLink RX6 112 yX6_rules, .instanceMethod yX6_rules, .selects RX6 yX6_rules yX6_rules, .initialized RX6, .code yX6_rules cX6_rules 5 (some .int), .fieldLink RX6 7 "ClosExchangeModel" "s" "[I", .methodLink RX6 34 yX6_in, .static yX6_in, .code yX6_in cX6_in 3 (some .boolean), .methodLink RX6 105 yX6_copies, .instanceMethod yX6_copies, .selects RX6 yX6_copies yX6_copies, .code yX6_copies cX6_copies 4 none, .methodLink RX6 109 yX6_accepts, .instanceMethod yX6_accepts, .selects RX6 yX6_accepts yX6_accepts, .code yX6_accepts cX6_accepts 3 (some .int), .fieldLink RX6 102 "ClosExchangeModel" "states" "I"] ++ wsX60)
def wsX6_setPairRule : List Cond := .code yX6_setPairRule cX6_setPairRule 2 (some .int) :: ([.methodLink RX6 112 yX6_rules, .instanceMethod yX6_rules, .selects RX6 yX6_rules yX6_rules, .initialized RX6, .code yX6_rules cX6_rules 5 (some .int), .fieldLink RX6 7 "ClosExchangeModel" "s" "[I", .methodLink RX6 34 yX6_in, .static yX6_in, .code yX6_in cX6_in 3 (some .boolean), .methodLink RX6 105 yX6_copies, .instanceMethod yX6_copies, .selects RX6 yX6_copies yX6_copies, .code yX6_copies cX6_copies 4 none, .methodLink RX6 109 yX6_accepts, .instanceMethod yX6_accepts, .selects RX6 yX6_accepts yX6_accepts, .code yX6_accepts cX6_accepts 3 (some .int), .fieldLink RX6 102 "ClosExchangeModel" "states" "I"] ++ wsX60)
def wsX6_connect_r1 : List Cond := [Cond.methodLink RX6 105 yX6_copies, Cond.instanceMethod yX6_copies, Cond.selects RX6 yX6_copies yX6_copies, Cond.initialized RX6, Cond.code yX6_copies cX6_copies 4 none, Cond.fieldLink RX6 7 "ClosExchangeModel" "s" "[I", Cond.methodLink RX6 115 yX6_connects, Cond.instanceMethod yX6_connects, Cond.selects RX6 yX6_connects yX6_connects, Cond.code yX6_connects cX6_connects 4 (some .int), Cond.methodLink RX6 78 yX6_isLine, Cond.instanceMethod yX6_isLine, Cond.selects RX6 yX6_isLine yX6_isLine, Cond.code yX6_isLine cX6_isLine 3 (some .boolean), Cond.methodLink RX6 30 yX6_lines, Cond.instanceMethod yX6_lines, Cond.selects RX6 yX6_lines yX6_lines, Cond.code yX6_lines cX6_lines 2 (some .int), Cond.methodLink RX6 34 yX6_in, Cond.static yX6_in, Cond.code yX6_in cX6_in 3 (some .boolean), Cond.methodLink RX6 41 yX6_of, Cond.instanceMethod yX6_of, Cond.selects RX6 yX6_of yX6_of]
def wsX6_connect_r2 : List Cond := [Cond.code yX6_of cX6_of 4 (some .int), Cond.methodLink RX6 81 yX6_inletTo, Cond.instanceMethod yX6_inletTo, Cond.selects RX6 yX6_inletTo yX6_inletTo, Cond.code yX6_inletTo cX6_inletTo 4 (some .int), Cond.methodLink RX6 38 yX6_lay, Cond.instanceMethod yX6_lay, Cond.selects RX6 yX6_lay yX6_lay, Cond.code yX6_lay cX6_lay 5 none, Cond.methodLink RX6 84 yX6_routes, Cond.instanceMethod yX6_routes, Cond.selects RX6 yX6_routes yX6_routes, Cond.code yX6_routes cX6_routes 9 (some .int), Cond.fieldLink RX6 68 "ClosExchangeModel" "chained" "I", Cond.fieldLink RX6 16 "ClosExchangeModel" "chain" "[I", Cond.methodLink RX6 62 yX6_freeAhead, Cond.instanceMethod yX6_freeAhead, Cond.selects RX6 yX6_freeAhead yX6_freeAhead, Cond.code yX6_freeAhead cX6_freeAhead 5 (some .int), Cond.methodLink RX6 26 yX6_has, Cond.static yX6_has, Cond.code yX6_has cX6_has 2 (some .boolean), Cond.methodLink RX6 45 yX6_onFirst, Cond.instanceMethod yX6_onFirst]
def wsX6_connect_r3 : List Cond := [Cond.selects RX6 yX6_onFirst yX6_onFirst, Cond.code yX6_onFirst cX6_onFirst 5 (some .int), Cond.methodLink RX6 65 yX6_freeBehind, Cond.instanceMethod yX6_freeBehind, Cond.selects RX6 yX6_freeBehind yX6_freeBehind, Cond.code yX6_freeBehind cX6_freeBehind 5 (some .int), Cond.methodLink RX6 48 yX6_onLast, Cond.instanceMethod yX6_onLast, Cond.selects RX6 yX6_onLast yX6_onLast, Cond.code yX6_onLast cX6_onLast 5 (some .int), Cond.methodLink RX6 72 yX6_chosen, Cond.instanceMethod yX6_chosen, Cond.selects RX6 yX6_chosen yX6_chosen, Cond.code yX6_chosen cX6_chosen 7 (some .int), Cond.methodLink RX6 51 yX6_lowest, Cond.static yX6_lowest, Cond.code yX6_lowest cX6_lowest 2 (some .int), Cond.methodLink RX6 54 yX6_loadOf, Cond.instanceMethod yX6_loadOf, Cond.selects RX6 yX6_loadOf yX6_loadOf, Cond.code yX6_loadOf cX6_loadOf 5 (some .int), Cond.methodLink RX6 75 yX6_pairOf, Cond.instanceMethod yX6_pairOf, Cond.selects RX6 yX6_pairOf yX6_pairOf]
def wsX6_connect_r4 : List Cond := [Cond.code yX6_pairOf cX6_pairOf 10 (some .int), Cond.methodLink RX6 58 yX6_lays, Cond.instanceMethod yX6_lays, Cond.selects RX6 yX6_lays yX6_lays, Cond.code yX6_lays cX6_lays 8 (some .int), Cond.methodLink RX6 109 yX6_accepts, Cond.instanceMethod yX6_accepts, Cond.selects RX6 yX6_accepts yX6_accepts, Cond.code yX6_accepts cX6_accepts 3 (some .int), Cond.fieldLink RX6 102 "ClosExchangeModel" "states" "I"]
def wsX6_connect : List Cond := .code yX6_connect cX6_connect 3 (some .int) :: ((wsX6_connect_r1 ++ (wsX6_connect_r2 ++ (wsX6_connect_r3 ++ wsX6_connect_r4))) ++ wsX60)
def wsX6_disconnect_r1 : List Cond := [Cond.methodLink RX6 105 yX6_copies, Cond.instanceMethod yX6_copies, Cond.selects RX6 yX6_copies yX6_copies, Cond.initialized RX6, Cond.code yX6_copies cX6_copies 4 none, Cond.fieldLink RX6 7 "ClosExchangeModel" "s" "[I", Cond.methodLink RX6 118 yX6_disconnects, Cond.instanceMethod yX6_disconnects, Cond.selects RX6 yX6_disconnects yX6_disconnects, Cond.code yX6_disconnects cX6_disconnects 4 (some .int), Cond.methodLink RX6 78 yX6_isLine, Cond.instanceMethod yX6_isLine, Cond.selects RX6 yX6_isLine yX6_isLine, Cond.code yX6_isLine cX6_isLine 3 (some .boolean), Cond.methodLink RX6 30 yX6_lines, Cond.instanceMethod yX6_lines, Cond.selects RX6 yX6_lines yX6_lines, Cond.code yX6_lines cX6_lines 2 (some .int), Cond.methodLink RX6 34 yX6_in, Cond.static yX6_in, Cond.code yX6_in cX6_in 3 (some .boolean), Cond.methodLink RX6 41 yX6_of, Cond.instanceMethod yX6_of, Cond.selects RX6 yX6_of yX6_of]
def wsX6_disconnect_r2 : List Cond := [Cond.code yX6_of cX6_of 4 (some .int), Cond.methodLink RX6 38 yX6_lay, Cond.instanceMethod yX6_lay, Cond.selects RX6 yX6_lay yX6_lay, Cond.code yX6_lay cX6_lay 5 none, Cond.methodLink RX6 109 yX6_accepts, Cond.instanceMethod yX6_accepts, Cond.selects RX6 yX6_accepts yX6_accepts, Cond.code yX6_accepts cX6_accepts 3 (some .int), Cond.fieldLink RX6 102 "ClosExchangeModel" "states" "I"]
def wsX6_disconnect : List Cond := .code yX6_disconnect cX6_disconnect 2 (some .int) :: ((wsX6_disconnect_r1 ++ wsX6_disconnect_r2) ++ wsX60)
def wsX6_takeOut_r1 : List Cond := [Cond.methodLink RX6 105 yX6_copies, Cond.instanceMethod yX6_copies, Cond.selects RX6 yX6_copies yX6_copies, Cond.initialized RX6, Cond.code yX6_copies cX6_copies 4 none, Cond.fieldLink RX6 7 "ClosExchangeModel" "s" "[I", Cond.methodLink RX6 121 yX6_takesOut, Cond.instanceMethod yX6_takesOut, Cond.selects RX6 yX6_takesOut yX6_takesOut, Cond.code yX6_takesOut cX6_takesOut 5 (some .int), Cond.methodLink RX6 87 yX6_isMiddle, Cond.instanceMethod yX6_isMiddle, Cond.selects RX6 yX6_isMiddle yX6_isMiddle, Cond.code yX6_isMiddle cX6_isMiddle 3 (some .boolean), Cond.methodLink RX6 34 yX6_in, Cond.static yX6_in, Cond.code yX6_in cX6_in 3 (some .boolean), Cond.methodLink RX6 26 yX6_has, Cond.static yX6_has, Cond.code yX6_has cX6_has 2 (some .boolean), Cond.methodLink RX6 30 yX6_lines, Cond.instanceMethod yX6_lines, Cond.selects RX6 yX6_lines yX6_lines, Cond.code yX6_lines cX6_lines 2 (some .int)]
def wsX6_takeOut_r2 : List Cond := [Cond.methodLink RX6 41 yX6_of, Cond.instanceMethod yX6_of, Cond.selects RX6 yX6_of yX6_of, Cond.code yX6_of cX6_of 4 (some .int), Cond.methodLink RX6 38 yX6_lay, Cond.instanceMethod yX6_lay, Cond.selects RX6 yX6_lay yX6_lay, Cond.code yX6_lay cX6_lay 5 none, Cond.methodLink RX6 90 yX6_nextOff, Cond.instanceMethod yX6_nextOff, Cond.selects RX6 yX6_nextOff yX6_nextOff, Cond.code yX6_nextOff cX6_nextOff 5 (some .int), Cond.methodLink RX6 84 yX6_routes, Cond.instanceMethod yX6_routes, Cond.selects RX6 yX6_routes yX6_routes, Cond.code yX6_routes cX6_routes 9 (some .int), Cond.fieldLink RX6 68 "ClosExchangeModel" "chained" "I", Cond.fieldLink RX6 16 "ClosExchangeModel" "chain" "[I", Cond.methodLink RX6 62 yX6_freeAhead, Cond.instanceMethod yX6_freeAhead, Cond.selects RX6 yX6_freeAhead yX6_freeAhead, Cond.code yX6_freeAhead cX6_freeAhead 5 (some .int), Cond.methodLink RX6 45 yX6_onFirst, Cond.instanceMethod yX6_onFirst]
def wsX6_takeOut_r3 : List Cond := [Cond.selects RX6 yX6_onFirst yX6_onFirst, Cond.code yX6_onFirst cX6_onFirst 5 (some .int), Cond.methodLink RX6 65 yX6_freeBehind, Cond.instanceMethod yX6_freeBehind, Cond.selects RX6 yX6_freeBehind yX6_freeBehind, Cond.code yX6_freeBehind cX6_freeBehind 5 (some .int), Cond.methodLink RX6 48 yX6_onLast, Cond.instanceMethod yX6_onLast, Cond.selects RX6 yX6_onLast yX6_onLast, Cond.code yX6_onLast cX6_onLast 5 (some .int), Cond.methodLink RX6 72 yX6_chosen, Cond.instanceMethod yX6_chosen, Cond.selects RX6 yX6_chosen yX6_chosen, Cond.code yX6_chosen cX6_chosen 7 (some .int), Cond.methodLink RX6 51 yX6_lowest, Cond.static yX6_lowest, Cond.code yX6_lowest cX6_lowest 2 (some .int), Cond.methodLink RX6 54 yX6_loadOf, Cond.instanceMethod yX6_loadOf, Cond.selects RX6 yX6_loadOf yX6_loadOf, Cond.code yX6_loadOf cX6_loadOf 5 (some .int), Cond.methodLink RX6 75 yX6_pairOf, Cond.instanceMethod yX6_pairOf, Cond.selects RX6 yX6_pairOf yX6_pairOf]
def wsX6_takeOut_r4 : List Cond := [Cond.code yX6_pairOf cX6_pairOf 10 (some .int), Cond.methodLink RX6 58 yX6_lays, Cond.instanceMethod yX6_lays, Cond.selects RX6 yX6_lays yX6_lays, Cond.code yX6_lays cX6_lays 8 (some .int), Cond.methodLink RX6 109 yX6_accepts, Cond.instanceMethod yX6_accepts, Cond.selects RX6 yX6_accepts yX6_accepts, Cond.code yX6_accepts cX6_accepts 3 (some .int), Cond.fieldLink RX6 102 "ClosExchangeModel" "states" "I"]
def wsX6_takeOut : List Cond := .code yX6_takeOut cX6_takeOut 2 (some .int) :: ((wsX6_takeOut_r1 ++ (wsX6_takeOut_r2 ++ (wsX6_takeOut_r3 ++ wsX6_takeOut_r4))) ++ wsX60)
def wsX6_putBack_r1 : List Cond := [Cond.methodLink RX6 105 yX6_copies, Cond.instanceMethod yX6_copies, Cond.selects RX6 yX6_copies yX6_copies, Cond.initialized RX6, Cond.code yX6_copies cX6_copies 4 none, Cond.fieldLink RX6 7 "ClosExchangeModel" "s" "[I", Cond.methodLink RX6 124 yX6_putsBack, Cond.instanceMethod yX6_putsBack, Cond.selects RX6 yX6_putsBack yX6_putsBack, Cond.code yX6_putsBack cX6_putsBack 3 (some .int), Cond.methodLink RX6 87 yX6_isMiddle, Cond.instanceMethod yX6_isMiddle, Cond.selects RX6 yX6_isMiddle yX6_isMiddle, Cond.code yX6_isMiddle cX6_isMiddle 3 (some .boolean), Cond.methodLink RX6 34 yX6_in, Cond.static yX6_in, Cond.code yX6_in cX6_in 3 (some .boolean), Cond.methodLink RX6 26 yX6_has, Cond.static yX6_has, Cond.code yX6_has cX6_has 2 (some .boolean), Cond.methodLink RX6 93 yX6_bits, Cond.static yX6_bits, Cond.code yX6_bits cX6_bits 3 (some .int), Cond.methodLink RX6 109 yX6_accepts]
def wsX6_putBack_r2 : List Cond := [Cond.instanceMethod yX6_accepts, Cond.selects RX6 yX6_accepts yX6_accepts, Cond.code yX6_accepts cX6_accepts 3 (some .int), Cond.fieldLink RX6 102 "ClosExchangeModel" "states" "I"]
def wsX6_putBack : List Cond := .code yX6_putBack cX6_putBack 2 (some .int) :: ((wsX6_putBack_r1 ++ wsX6_putBack_r2) ++ wsX60)
def wsX6_pack_r1 : List Cond := [Cond.methodLink RX6 105 yX6_copies, Cond.instanceMethod yX6_copies, Cond.selects RX6 yX6_copies yX6_copies, Cond.initialized RX6, Cond.code yX6_copies cX6_copies 4 none, Cond.fieldLink RX6 7 "ClosExchangeModel" "s" "[I", Cond.methodLink RX6 127 yX6_packs, Cond.instanceMethod yX6_packs, Cond.selects RX6 yX6_packs yX6_packs, Cond.code yX6_packs cX6_packs 8 (some .int), Cond.fieldLink RX6 19 "ClosExchangeModel" "before" "[I", Cond.methodLink RX6 96 yX6_calls, Cond.instanceMethod yX6_calls, Cond.selects RX6 yX6_calls yX6_calls, Cond.code yX6_calls cX6_calls 4 (some .int), Cond.methodLink RX6 30 yX6_lines, Cond.instanceMethod yX6_lines, Cond.selects RX6 yX6_lines yX6_lines, Cond.code yX6_lines cX6_lines 2 (some .int), Cond.methodLink RX6 41 yX6_of, Cond.instanceMethod yX6_of, Cond.selects RX6 yX6_of yX6_of, Cond.code yX6_of cX6_of 4 (some .int), Cond.methodLink RX6 99 yX6_least]
def wsX6_pack_r2 : List Cond := [Cond.instanceMethod yX6_least, Cond.selects RX6 yX6_least yX6_least, Cond.code yX6_least cX6_least 8 (some .int), Cond.methodLink RX6 26 yX6_has, Cond.static yX6_has, Cond.code yX6_has cX6_has 2 (some .boolean), Cond.methodLink RX6 93 yX6_bits, Cond.static yX6_bits, Cond.code yX6_bits cX6_bits 3 (some .int), Cond.methodLink RX6 38 yX6_lay, Cond.instanceMethod yX6_lay, Cond.selects RX6 yX6_lay yX6_lay, Cond.code yX6_lay cX6_lay 5 none, Cond.methodLink RX6 90 yX6_nextOff, Cond.instanceMethod yX6_nextOff, Cond.selects RX6 yX6_nextOff yX6_nextOff, Cond.code yX6_nextOff cX6_nextOff 5 (some .int), Cond.methodLink RX6 84 yX6_routes, Cond.instanceMethod yX6_routes, Cond.selects RX6 yX6_routes yX6_routes, Cond.code yX6_routes cX6_routes 9 (some .int), Cond.fieldLink RX6 68 "ClosExchangeModel" "chained" "I", Cond.fieldLink RX6 16 "ClosExchangeModel" "chain" "[I", Cond.methodLink RX6 62 yX6_freeAhead]
def wsX6_pack_r3 : List Cond := [Cond.instanceMethod yX6_freeAhead, Cond.selects RX6 yX6_freeAhead yX6_freeAhead, Cond.code yX6_freeAhead cX6_freeAhead 5 (some .int), Cond.methodLink RX6 45 yX6_onFirst, Cond.instanceMethod yX6_onFirst, Cond.selects RX6 yX6_onFirst yX6_onFirst, Cond.code yX6_onFirst cX6_onFirst 5 (some .int), Cond.methodLink RX6 65 yX6_freeBehind, Cond.instanceMethod yX6_freeBehind, Cond.selects RX6 yX6_freeBehind yX6_freeBehind, Cond.code yX6_freeBehind cX6_freeBehind 5 (some .int), Cond.methodLink RX6 48 yX6_onLast, Cond.instanceMethod yX6_onLast, Cond.selects RX6 yX6_onLast yX6_onLast, Cond.code yX6_onLast cX6_onLast 5 (some .int), Cond.methodLink RX6 72 yX6_chosen, Cond.instanceMethod yX6_chosen, Cond.selects RX6 yX6_chosen yX6_chosen, Cond.code yX6_chosen cX6_chosen 7 (some .int), Cond.methodLink RX6 51 yX6_lowest, Cond.static yX6_lowest, Cond.code yX6_lowest cX6_lowest 2 (some .int), Cond.methodLink RX6 54 yX6_loadOf, Cond.instanceMethod yX6_loadOf]
def wsX6_pack_r4 : List Cond := [Cond.selects RX6 yX6_loadOf yX6_loadOf, Cond.code yX6_loadOf cX6_loadOf 5 (some .int), Cond.methodLink RX6 75 yX6_pairOf, Cond.instanceMethod yX6_pairOf, Cond.selects RX6 yX6_pairOf yX6_pairOf, Cond.code yX6_pairOf cX6_pairOf 10 (some .int), Cond.methodLink RX6 58 yX6_lays, Cond.instanceMethod yX6_lays, Cond.selects RX6 yX6_lays yX6_lays, Cond.code yX6_lays cX6_lays 8 (some .int), Cond.methodLink RX6 109 yX6_accepts, Cond.instanceMethod yX6_accepts, Cond.selects RX6 yX6_accepts yX6_accepts, Cond.code yX6_accepts cX6_accepts 3 (some .int), Cond.fieldLink RX6 102 "ClosExchangeModel" "states" "I"]
def wsX6_pack : List Cond := .code yX6_pack cX6_pack 1 (some .int) :: ((wsX6_pack_r1 ++ (wsX6_pack_r2 ++ (wsX6_pack_r3 ++ wsX6_pack_r4))) ++ wsX60)
def wsX6_type : List Cond := .code yX6_type cX6_type 2 (some .int) :: ([.fieldLink RX6 130 "ClosExchangeModel" "typed" "I", .fieldLink RX6 13 "ClosExchangeModel" "text" "[I"] ++ wsX60)
def wsX6_clearText : List Cond := .code yX6_clearText cX6_clearText 2 (some .int) :: ([.fieldLink RX6 130 "ClosExchangeModel" "typed" "I"] ++ wsX60)
def wsX6_isHere : List Cond := .code yX6_isHere cX6_isHere 3 (some .boolean) :: ([.fieldLink RX6 133 "ClosExchangeModel" "at" "I", .fieldLink RX6 130 "ClosExchangeModel" "typed" "I", .fieldLink RX6 13 "ClosExchangeModel" "text" "[I", .methodLink RX6 34 yX6_in, .static yX6_in, .initialized RX6, .code yX6_in cX6_in 3 (some .boolean)] ++ wsX60)
def wsX6_takes : List Cond := .code yX6_takes cX6_takes 3 (some .boolean) :: ([.fieldLink RX6 133 "ClosExchangeModel" "at" "I", .methodLink RX6 136 yX6_isHere, .instanceMethod yX6_isHere, .selects RX6 yX6_isHere yX6_isHere, .initialized RX6, .code yX6_isHere cX6_isHere 3 (some .boolean), .fieldLink RX6 130 "ClosExchangeModel" "typed" "I", .fieldLink RX6 13 "ClosExchangeModel" "text" "[I", .methodLink RX6 34 yX6_in, .static yX6_in, .code yX6_in cX6_in 3 (some .boolean)] ++ wsX60)
def wsX6_number : List Cond := .code yX6_number cX6_number 2 (some .int) :: ([.fieldLink RX6 13 "ClosExchangeModel" "text" "[I", .fieldLink RX6 133 "ClosExchangeModel" "at" "I", .methodLink RX6 136 yX6_isHere, .instanceMethod yX6_isHere, .selects RX6 yX6_isHere yX6_isHere, .initialized RX6, .code yX6_isHere cX6_isHere 3 (some .boolean), .fieldLink RX6 130 "ClosExchangeModel" "typed" "I", .methodLink RX6 34 yX6_in, .static yX6_in, .code yX6_in cX6_in 3 (some .boolean)] ++ wsX60)
def wsX6_digit : List Cond := .code yX6_digit cX6_digit 1 (some .int) :: ([.fieldLink RX6 133 "ClosExchangeModel" "at" "I", .fieldLink RX6 13 "ClosExchangeModel" "text" "[I", .methodLink RX6 136 yX6_isHere, .instanceMethod yX6_isHere, .selects RX6 yX6_isHere yX6_isHere, .initialized RX6, .code yX6_isHere cX6_isHere 3 (some .boolean), .fieldLink RX6 130 "ClosExchangeModel" "typed" "I", .methodLink RX6 34 yX6_in, .static yX6_in, .code yX6_in cX6_in 3 (some .boolean)] ++ wsX60)
def wsX6_reads_r1 : List Cond := [Cond.fieldLink RX6 143 "ClosExchangeModel" "order" "I", Cond.fieldLink RX6 150 "ClosExchangeModel" "first" "I", Cond.fieldLink RX6 153 "ClosExchangeModel" "second" "I", Cond.methodLink RX6 139 yX6_takes, Cond.instanceMethod yX6_takes, Cond.selects RX6 yX6_takes yX6_takes, Cond.initialized RX6, Cond.code yX6_takes cX6_takes 3 (some .boolean), Cond.fieldLink RX6 133 "ClosExchangeModel" "at" "I", Cond.methodLink RX6 136 yX6_isHere, Cond.instanceMethod yX6_isHere, Cond.selects RX6 yX6_isHere yX6_isHere, Cond.code yX6_isHere cX6_isHere 3 (some .boolean), Cond.fieldLink RX6 130 "ClosExchangeModel" "typed" "I", Cond.fieldLink RX6 13 "ClosExchangeModel" "text" "[I", Cond.methodLink RX6 34 yX6_in, Cond.static yX6_in, Cond.code yX6_in cX6_in 3 (some .boolean), Cond.methodLink RX6 146 yX6_number, Cond.instanceMethod yX6_number, Cond.selects RX6 yX6_number yX6_number, Cond.code yX6_number cX6_number 2 (some .int), Cond.methodLink RX6 156 yX6_digit, Cond.instanceMethod yX6_digit]
def wsX6_reads_r2 : List Cond := [Cond.selects RX6 yX6_digit yX6_digit, Cond.code yX6_digit cX6_digit 1 (some .int)]
def wsX6_reads : List Cond := .code yX6_reads cX6_reads 1 (some .boolean) :: ((wsX6_reads_r1 ++ wsX6_reads_r2) ++ wsX60)
def wsX6_fault_r1 : List Cond := [Cond.fieldLink RX6 133 "ClosExchangeModel" "at" "I", Cond.fieldLink RX6 130 "ClosExchangeModel" "typed" "I", Cond.methodLink RX6 159 yX6_reads, Cond.instanceMethod yX6_reads, Cond.selects RX6 yX6_reads yX6_reads, Cond.initialized RX6, Cond.code yX6_reads cX6_reads 1 (some .boolean), Cond.fieldLink RX6 143 "ClosExchangeModel" "order" "I", Cond.fieldLink RX6 150 "ClosExchangeModel" "first" "I", Cond.fieldLink RX6 153 "ClosExchangeModel" "second" "I", Cond.methodLink RX6 139 yX6_takes, Cond.instanceMethod yX6_takes, Cond.selects RX6 yX6_takes yX6_takes, Cond.code yX6_takes cX6_takes 3 (some .boolean), Cond.methodLink RX6 136 yX6_isHere, Cond.instanceMethod yX6_isHere, Cond.selects RX6 yX6_isHere yX6_isHere, Cond.code yX6_isHere cX6_isHere 3 (some .boolean), Cond.fieldLink RX6 13 "ClosExchangeModel" "text" "[I", Cond.methodLink RX6 34 yX6_in, Cond.static yX6_in, Cond.code yX6_in cX6_in 3 (some .boolean), Cond.methodLink RX6 146 yX6_number, Cond.instanceMethod yX6_number]
def wsX6_fault_r2 : List Cond := [Cond.selects RX6 yX6_number yX6_number, Cond.code yX6_number cX6_number 2 (some .int), Cond.methodLink RX6 156 yX6_digit, Cond.instanceMethod yX6_digit, Cond.selects RX6 yX6_digit yX6_digit, Cond.code yX6_digit cX6_digit 1 (some .int)]
def wsX6_fault : List Cond := .code yX6_fault cX6_fault 1 (some .int) :: ((wsX6_fault_r1 ++ wsX6_fault_r2) ++ wsX60)
def wsX6_carries_r1 : List Cond := [Cond.fieldLink RX6 143 "ClosExchangeModel" "order" "I", Cond.fieldLink RX6 150 "ClosExchangeModel" "first" "I", Cond.fieldLink RX6 153 "ClosExchangeModel" "second" "I", Cond.methodLink RX6 115 yX6_connects, Cond.instanceMethod yX6_connects, Cond.selects RX6 yX6_connects yX6_connects, Cond.initialized RX6, Cond.code yX6_connects cX6_connects 4 (some .int), Cond.fieldLink RX6 7 "ClosExchangeModel" "s" "[I", Cond.methodLink RX6 78 yX6_isLine, Cond.instanceMethod yX6_isLine, Cond.selects RX6 yX6_isLine yX6_isLine, Cond.code yX6_isLine cX6_isLine 3 (some .boolean), Cond.methodLink RX6 30 yX6_lines, Cond.instanceMethod yX6_lines, Cond.selects RX6 yX6_lines yX6_lines, Cond.code yX6_lines cX6_lines 2 (some .int), Cond.methodLink RX6 34 yX6_in, Cond.static yX6_in, Cond.code yX6_in cX6_in 3 (some .boolean), Cond.methodLink RX6 41 yX6_of, Cond.instanceMethod yX6_of, Cond.selects RX6 yX6_of yX6_of, Cond.code yX6_of cX6_of 4 (some .int)]
def wsX6_carries_r2 : List Cond := [Cond.methodLink RX6 81 yX6_inletTo, Cond.instanceMethod yX6_inletTo, Cond.selects RX6 yX6_inletTo yX6_inletTo, Cond.code yX6_inletTo cX6_inletTo 4 (some .int), Cond.methodLink RX6 38 yX6_lay, Cond.instanceMethod yX6_lay, Cond.selects RX6 yX6_lay yX6_lay, Cond.code yX6_lay cX6_lay 5 none, Cond.methodLink RX6 84 yX6_routes, Cond.instanceMethod yX6_routes, Cond.selects RX6 yX6_routes yX6_routes, Cond.code yX6_routes cX6_routes 9 (some .int), Cond.fieldLink RX6 68 "ClosExchangeModel" "chained" "I", Cond.fieldLink RX6 16 "ClosExchangeModel" "chain" "[I", Cond.methodLink RX6 62 yX6_freeAhead, Cond.instanceMethod yX6_freeAhead, Cond.selects RX6 yX6_freeAhead yX6_freeAhead, Cond.code yX6_freeAhead cX6_freeAhead 5 (some .int), Cond.methodLink RX6 26 yX6_has, Cond.static yX6_has, Cond.code yX6_has cX6_has 2 (some .boolean), Cond.methodLink RX6 45 yX6_onFirst, Cond.instanceMethod yX6_onFirst, Cond.selects RX6 yX6_onFirst yX6_onFirst]
def wsX6_carries_r3 : List Cond := [Cond.code yX6_onFirst cX6_onFirst 5 (some .int), Cond.methodLink RX6 65 yX6_freeBehind, Cond.instanceMethod yX6_freeBehind, Cond.selects RX6 yX6_freeBehind yX6_freeBehind, Cond.code yX6_freeBehind cX6_freeBehind 5 (some .int), Cond.methodLink RX6 48 yX6_onLast, Cond.instanceMethod yX6_onLast, Cond.selects RX6 yX6_onLast yX6_onLast, Cond.code yX6_onLast cX6_onLast 5 (some .int), Cond.methodLink RX6 72 yX6_chosen, Cond.instanceMethod yX6_chosen, Cond.selects RX6 yX6_chosen yX6_chosen, Cond.code yX6_chosen cX6_chosen 7 (some .int), Cond.methodLink RX6 51 yX6_lowest, Cond.static yX6_lowest, Cond.code yX6_lowest cX6_lowest 2 (some .int), Cond.methodLink RX6 54 yX6_loadOf, Cond.instanceMethod yX6_loadOf, Cond.selects RX6 yX6_loadOf yX6_loadOf, Cond.code yX6_loadOf cX6_loadOf 5 (some .int), Cond.methodLink RX6 75 yX6_pairOf, Cond.instanceMethod yX6_pairOf, Cond.selects RX6 yX6_pairOf yX6_pairOf, Cond.code yX6_pairOf cX6_pairOf 10 (some .int)]
def wsX6_carries_r4 : List Cond := [Cond.methodLink RX6 58 yX6_lays, Cond.instanceMethod yX6_lays, Cond.selects RX6 yX6_lays yX6_lays, Cond.code yX6_lays cX6_lays 8 (some .int), Cond.methodLink RX6 118 yX6_disconnects, Cond.instanceMethod yX6_disconnects, Cond.selects RX6 yX6_disconnects yX6_disconnects, Cond.code yX6_disconnects cX6_disconnects 4 (some .int), Cond.methodLink RX6 121 yX6_takesOut, Cond.instanceMethod yX6_takesOut, Cond.selects RX6 yX6_takesOut yX6_takesOut, Cond.code yX6_takesOut cX6_takesOut 5 (some .int), Cond.methodLink RX6 87 yX6_isMiddle, Cond.instanceMethod yX6_isMiddle, Cond.selects RX6 yX6_isMiddle yX6_isMiddle, Cond.code yX6_isMiddle cX6_isMiddle 3 (some .boolean), Cond.methodLink RX6 90 yX6_nextOff, Cond.instanceMethod yX6_nextOff, Cond.selects RX6 yX6_nextOff yX6_nextOff, Cond.code yX6_nextOff cX6_nextOff 5 (some .int), Cond.methodLink RX6 124 yX6_putsBack, Cond.instanceMethod yX6_putsBack, Cond.selects RX6 yX6_putsBack yX6_putsBack, Cond.code yX6_putsBack cX6_putsBack 3 (some .int)]
def wsX6_carries_r5 : List Cond := [Cond.methodLink RX6 93 yX6_bits, Cond.static yX6_bits, Cond.code yX6_bits cX6_bits 3 (some .int), Cond.methodLink RX6 127 yX6_packs, Cond.instanceMethod yX6_packs, Cond.selects RX6 yX6_packs yX6_packs, Cond.code yX6_packs cX6_packs 8 (some .int), Cond.fieldLink RX6 19 "ClosExchangeModel" "before" "[I", Cond.methodLink RX6 96 yX6_calls, Cond.instanceMethod yX6_calls, Cond.selects RX6 yX6_calls yX6_calls, Cond.code yX6_calls cX6_calls 4 (some .int), Cond.methodLink RX6 99 yX6_least, Cond.instanceMethod yX6_least, Cond.selects RX6 yX6_least yX6_least, Cond.code yX6_least cX6_least 8 (some .int)]
def wsX6_carries : List Cond := .code yX6_carries cX6_carries 1 (some .int) :: ((wsX6_carries_r1 ++ (wsX6_carries_r2 ++ (wsX6_carries_r3 ++ (wsX6_carries_r4 ++ wsX6_carries_r5)))) ++ wsX60)
def wsX6_perform_r1 : List Cond := [Cond.fieldLink RX6 133 "ClosExchangeModel" "at" "I", Cond.methodLink RX6 163 yX6_fault, Cond.instanceMethod yX6_fault, Cond.selects RX6 yX6_fault yX6_fault, Cond.initialized RX6, Cond.code yX6_fault cX6_fault 1 (some .int), Cond.fieldLink RX6 130 "ClosExchangeModel" "typed" "I", Cond.methodLink RX6 159 yX6_reads, Cond.instanceMethod yX6_reads, Cond.selects RX6 yX6_reads yX6_reads, Cond.code yX6_reads cX6_reads 1 (some .boolean), Cond.fieldLink RX6 143 "ClosExchangeModel" "order" "I", Cond.fieldLink RX6 150 "ClosExchangeModel" "first" "I", Cond.fieldLink RX6 153 "ClosExchangeModel" "second" "I", Cond.methodLink RX6 139 yX6_takes, Cond.instanceMethod yX6_takes, Cond.selects RX6 yX6_takes yX6_takes, Cond.code yX6_takes cX6_takes 3 (some .boolean), Cond.methodLink RX6 136 yX6_isHere, Cond.instanceMethod yX6_isHere, Cond.selects RX6 yX6_isHere yX6_isHere, Cond.code yX6_isHere cX6_isHere 3 (some .boolean), Cond.fieldLink RX6 13 "ClosExchangeModel" "text" "[I", Cond.methodLink RX6 34 yX6_in]
def wsX6_perform_r2 : List Cond := [Cond.static yX6_in, Cond.code yX6_in cX6_in 3 (some .boolean), Cond.methodLink RX6 146 yX6_number, Cond.instanceMethod yX6_number, Cond.selects RX6 yX6_number yX6_number, Cond.code yX6_number cX6_number 2 (some .int), Cond.methodLink RX6 156 yX6_digit, Cond.instanceMethod yX6_digit, Cond.selects RX6 yX6_digit yX6_digit, Cond.code yX6_digit cX6_digit 1 (some .int), Cond.methodLink RX6 105 yX6_copies, Cond.instanceMethod yX6_copies, Cond.selects RX6 yX6_copies yX6_copies, Cond.code yX6_copies cX6_copies 4 none, Cond.fieldLink RX6 7 "ClosExchangeModel" "s" "[I", Cond.methodLink RX6 166 yX6_carries, Cond.instanceMethod yX6_carries, Cond.selects RX6 yX6_carries yX6_carries, Cond.code yX6_carries cX6_carries 1 (some .int), Cond.methodLink RX6 115 yX6_connects, Cond.instanceMethod yX6_connects, Cond.selects RX6 yX6_connects yX6_connects, Cond.code yX6_connects cX6_connects 4 (some .int), Cond.methodLink RX6 78 yX6_isLine]
def wsX6_perform_r3 : List Cond := [Cond.instanceMethod yX6_isLine, Cond.selects RX6 yX6_isLine yX6_isLine, Cond.code yX6_isLine cX6_isLine 3 (some .boolean), Cond.methodLink RX6 30 yX6_lines, Cond.instanceMethod yX6_lines, Cond.selects RX6 yX6_lines yX6_lines, Cond.code yX6_lines cX6_lines 2 (some .int), Cond.methodLink RX6 41 yX6_of, Cond.instanceMethod yX6_of, Cond.selects RX6 yX6_of yX6_of, Cond.code yX6_of cX6_of 4 (some .int), Cond.methodLink RX6 81 yX6_inletTo, Cond.instanceMethod yX6_inletTo, Cond.selects RX6 yX6_inletTo yX6_inletTo, Cond.code yX6_inletTo cX6_inletTo 4 (some .int), Cond.methodLink RX6 38 yX6_lay, Cond.instanceMethod yX6_lay, Cond.selects RX6 yX6_lay yX6_lay, Cond.code yX6_lay cX6_lay 5 none, Cond.methodLink RX6 84 yX6_routes, Cond.instanceMethod yX6_routes, Cond.selects RX6 yX6_routes yX6_routes, Cond.code yX6_routes cX6_routes 9 (some .int), Cond.fieldLink RX6 68 "ClosExchangeModel" "chained" "I"]
def wsX6_perform_r4 : List Cond := [Cond.fieldLink RX6 16 "ClosExchangeModel" "chain" "[I", Cond.methodLink RX6 62 yX6_freeAhead, Cond.instanceMethod yX6_freeAhead, Cond.selects RX6 yX6_freeAhead yX6_freeAhead, Cond.code yX6_freeAhead cX6_freeAhead 5 (some .int), Cond.methodLink RX6 26 yX6_has, Cond.static yX6_has, Cond.code yX6_has cX6_has 2 (some .boolean), Cond.methodLink RX6 45 yX6_onFirst, Cond.instanceMethod yX6_onFirst, Cond.selects RX6 yX6_onFirst yX6_onFirst, Cond.code yX6_onFirst cX6_onFirst 5 (some .int), Cond.methodLink RX6 65 yX6_freeBehind, Cond.instanceMethod yX6_freeBehind, Cond.selects RX6 yX6_freeBehind yX6_freeBehind, Cond.code yX6_freeBehind cX6_freeBehind 5 (some .int), Cond.methodLink RX6 48 yX6_onLast, Cond.instanceMethod yX6_onLast, Cond.selects RX6 yX6_onLast yX6_onLast, Cond.code yX6_onLast cX6_onLast 5 (some .int), Cond.methodLink RX6 72 yX6_chosen, Cond.instanceMethod yX6_chosen, Cond.selects RX6 yX6_chosen yX6_chosen, Cond.code yX6_chosen cX6_chosen 7 (some .int)]
def wsX6_perform_r5 : List Cond := [Cond.methodLink RX6 51 yX6_lowest, Cond.static yX6_lowest, Cond.code yX6_lowest cX6_lowest 2 (some .int), Cond.methodLink RX6 54 yX6_loadOf, Cond.instanceMethod yX6_loadOf, Cond.selects RX6 yX6_loadOf yX6_loadOf, Cond.code yX6_loadOf cX6_loadOf 5 (some .int), Cond.methodLink RX6 75 yX6_pairOf, Cond.instanceMethod yX6_pairOf, Cond.selects RX6 yX6_pairOf yX6_pairOf, Cond.code yX6_pairOf cX6_pairOf 10 (some .int), Cond.methodLink RX6 58 yX6_lays, Cond.instanceMethod yX6_lays, Cond.selects RX6 yX6_lays yX6_lays, Cond.code yX6_lays cX6_lays 8 (some .int), Cond.methodLink RX6 118 yX6_disconnects, Cond.instanceMethod yX6_disconnects, Cond.selects RX6 yX6_disconnects yX6_disconnects, Cond.code yX6_disconnects cX6_disconnects 4 (some .int), Cond.methodLink RX6 121 yX6_takesOut, Cond.instanceMethod yX6_takesOut, Cond.selects RX6 yX6_takesOut yX6_takesOut, Cond.code yX6_takesOut cX6_takesOut 5 (some .int), Cond.methodLink RX6 87 yX6_isMiddle]
def wsX6_perform_r6 : List Cond := [Cond.instanceMethod yX6_isMiddle, Cond.selects RX6 yX6_isMiddle yX6_isMiddle, Cond.code yX6_isMiddle cX6_isMiddle 3 (some .boolean), Cond.methodLink RX6 90 yX6_nextOff, Cond.instanceMethod yX6_nextOff, Cond.selects RX6 yX6_nextOff yX6_nextOff, Cond.code yX6_nextOff cX6_nextOff 5 (some .int), Cond.methodLink RX6 124 yX6_putsBack, Cond.instanceMethod yX6_putsBack, Cond.selects RX6 yX6_putsBack yX6_putsBack, Cond.code yX6_putsBack cX6_putsBack 3 (some .int), Cond.methodLink RX6 93 yX6_bits, Cond.static yX6_bits, Cond.code yX6_bits cX6_bits 3 (some .int), Cond.methodLink RX6 127 yX6_packs, Cond.instanceMethod yX6_packs, Cond.selects RX6 yX6_packs yX6_packs, Cond.code yX6_packs cX6_packs 8 (some .int), Cond.fieldLink RX6 19 "ClosExchangeModel" "before" "[I", Cond.methodLink RX6 96 yX6_calls, Cond.instanceMethod yX6_calls, Cond.selects RX6 yX6_calls yX6_calls, Cond.code yX6_calls cX6_calls 4 (some .int), Cond.methodLink RX6 99 yX6_least]
def wsX6_perform_r7 : List Cond := [Cond.instanceMethod yX6_least, Cond.selects RX6 yX6_least yX6_least, Cond.code yX6_least cX6_least 8 (some .int), Cond.methodLink RX6 109 yX6_accepts, Cond.instanceMethod yX6_accepts, Cond.selects RX6 yX6_accepts yX6_accepts, Cond.code yX6_accepts cX6_accepts 3 (some .int), Cond.fieldLink RX6 102 "ClosExchangeModel" "states" "I"]
def wsX6_perform : List Cond := .code yX6_perform cX6_perform 5 (some .int) :: ((wsX6_perform_r1 ++ (wsX6_perform_r2 ++ (wsX6_perform_r3 ++ (wsX6_perform_r4 ++ (wsX6_perform_r5 ++ (wsX6_perform_r6 ++ wsX6_perform_r7)))))) ++ wsX60)
def wsX6_undo : List Cond := .code yX6_undo cX6_undo 1 (some .int) :: ([.fieldLink RX6 102 "ClosExchangeModel" "states" "I", .methodLink RX6 105 yX6_copies, .instanceMethod yX6_copies, .selects RX6 yX6_copies yX6_copies, .initialized RX6, .code yX6_copies cX6_copies 4 none, .fieldLink RX6 7 "ClosExchangeModel" "s" "[I"] ++ wsX60)
def wsX6_keep : List Cond := .code yX6_keep cX6_keep 1 (some .int) :: ([.fieldLink RX6 169 "ClosExchangeModel" "isKept" "Z", .methodLink RX6 105 yX6_copies, .instanceMethod yX6_copies, .selects RX6 yX6_copies yX6_copies, .initialized RX6, .code yX6_copies cX6_copies 4 none, .fieldLink RX6 7 "ClosExchangeModel" "s" "[I", .methodLink RX6 96 yX6_calls, .instanceMethod yX6_calls, .selects RX6 yX6_calls yX6_calls, .code yX6_calls cX6_calls 4 (some .int), .methodLink RX6 30 yX6_lines, .instanceMethod yX6_lines, .selects RX6 yX6_lines yX6_lines, .code yX6_lines cX6_lines 2 (some .int), .methodLink RX6 41 yX6_of, .instanceMethod yX6_of, .selects RX6 yX6_of yX6_of, .code yX6_of cX6_of 4 (some .int)] ++ wsX60)
def wsX6_restore : List Cond := .code yX6_restore cX6_restore 1 (some .int) :: ([.fieldLink RX6 169 "ClosExchangeModel" "isKept" "Z", .methodLink RX6 105 yX6_copies, .instanceMethod yX6_copies, .selects RX6 yX6_copies yX6_copies, .initialized RX6, .code yX6_copies cX6_copies 4 none, .fieldLink RX6 7 "ClosExchangeModel" "s" "[I", .methodLink RX6 96 yX6_calls, .instanceMethod yX6_calls, .selects RX6 yX6_calls yX6_calls, .code yX6_calls cX6_calls 4 (some .int), .methodLink RX6 30 yX6_lines, .instanceMethod yX6_lines, .selects RX6 yX6_lines yX6_lines, .code yX6_lines cX6_lines 2 (some .int), .methodLink RX6 41 yX6_of, .instanceMethod yX6_of, .selects RX6 yX6_of yX6_of, .code yX6_of cX6_of 4 (some .int), .methodLink RX6 109 yX6_accepts, .instanceMethod yX6_accepts, .selects RX6 yX6_accepts yX6_accepts, .code yX6_accepts cX6_accepts 3 (some .int), .fieldLink RX6 102 "ClosExchangeModel" "states" "I"] ++ wsX60)
def wsX6_callOfInlet : List Cond := .code yX6_callOfInlet cX6_callOfInlet 2 (some .int) :: ([.methodLink RX6 78 yX6_isLine, .instanceMethod yX6_isLine, .selects RX6 yX6_isLine yX6_isLine, .initialized RX6, .code yX6_isLine cX6_isLine 3 (some .boolean), .methodLink RX6 30 yX6_lines, .instanceMethod yX6_lines, .selects RX6 yX6_lines yX6_lines, .code yX6_lines cX6_lines 2 (some .int), .fieldLink RX6 7 "ClosExchangeModel" "s" "[I", .methodLink RX6 34 yX6_in, .static yX6_in, .code yX6_in cX6_in 3 (some .boolean), .methodLink RX6 41 yX6_of, .instanceMethod yX6_of, .selects RX6 yX6_of yX6_of, .code yX6_of cX6_of 4 (some .int)] ++ wsX60)
def wsX6_callOfOutlet : List Cond := .code yX6_callOfOutlet cX6_callOfOutlet 3 (some .int) :: ([.methodLink RX6 78 yX6_isLine, .instanceMethod yX6_isLine, .selects RX6 yX6_isLine yX6_isLine, .initialized RX6, .code yX6_isLine cX6_isLine 3 (some .boolean), .methodLink RX6 30 yX6_lines, .instanceMethod yX6_lines, .selects RX6 yX6_lines yX6_lines, .code yX6_lines cX6_lines 2 (some .int), .fieldLink RX6 7 "ClosExchangeModel" "s" "[I", .methodLink RX6 34 yX6_in, .static yX6_in, .code yX6_in cX6_in 3 (some .boolean), .methodLink RX6 81 yX6_inletTo, .instanceMethod yX6_inletTo, .selects RX6 yX6_inletTo yX6_inletTo, .code yX6_inletTo cX6_inletTo 4 (some .int), .methodLink RX6 41 yX6_of, .instanceMethod yX6_of, .selects RX6 yX6_of yX6_of, .code yX6_of cX6_of 4 (some .int)] ++ wsX60)
def wsX6_inletOf : List Cond := .code yX6_inletOf cX6_inletOf 3 (some .int) :: ([.methodLink RX6 30 yX6_lines, .instanceMethod yX6_lines, .selects RX6 yX6_lines yX6_lines, .initialized RX6, .code yX6_lines cX6_lines 2 (some .int), .fieldLink RX6 7 "ClosExchangeModel" "s" "[I", .methodLink RX6 41 yX6_of, .instanceMethod yX6_of, .selects RX6 yX6_of yX6_of, .code yX6_of cX6_of 4 (some .int)] ++ wsX60)
def wsX6_outletOf : List Cond := .code yX6_outletOf cX6_outletOf 3 (some .int) :: ([.methodLink RX6 173 yX6_inletOf, .instanceMethod yX6_inletOf, .selects RX6 yX6_inletOf yX6_inletOf, .initialized RX6, .code yX6_inletOf cX6_inletOf 3 (some .int), .methodLink RX6 30 yX6_lines, .instanceMethod yX6_lines, .selects RX6 yX6_lines yX6_lines, .code yX6_lines cX6_lines 2 (some .int), .fieldLink RX6 7 "ClosExchangeModel" "s" "[I", .methodLink RX6 41 yX6_of, .instanceMethod yX6_of, .selects RX6 yX6_of yX6_of, .code yX6_of cX6_of 4 (some .int)] ++ wsX60)
def wsX6_middleOf : List Cond := .code yX6_middleOf cX6_middleOf 3 (some .int) :: ([.methodLink RX6 173 yX6_inletOf, .instanceMethod yX6_inletOf, .selects RX6 yX6_inletOf yX6_inletOf, .initialized RX6, .code yX6_inletOf cX6_inletOf 3 (some .int), .methodLink RX6 30 yX6_lines, .instanceMethod yX6_lines, .selects RX6 yX6_lines yX6_lines, .code yX6_lines cX6_lines 2 (some .int), .fieldLink RX6 7 "ClosExchangeModel" "s" "[I", .methodLink RX6 41 yX6_of, .instanceMethod yX6_of, .selects RX6 yX6_of yX6_of, .code yX6_of cX6_of 4 (some .int)] ++ wsX60)
def wsX6_onFirstLink_r1 : List Cond := [Cond.methodLink RX6 176 yX6_isBoard, Cond.instanceMethod yX6_isBoard, Cond.selects RX6 yX6_isBoard yX6_isBoard, Cond.initialized RX6, Cond.code yX6_isBoard cX6_isBoard 2 (some .boolean), Cond.fieldLink RX6 7 "ClosExchangeModel" "s" "[I", Cond.methodLink RX6 34 yX6_in, Cond.static yX6_in, Cond.code yX6_in cX6_in 3 (some .boolean), Cond.methodLink RX6 87 yX6_isMiddle, Cond.instanceMethod yX6_isMiddle, Cond.selects RX6 yX6_isMiddle yX6_isMiddle, Cond.code yX6_isMiddle cX6_isMiddle 3 (some .boolean), Cond.methodLink RX6 45 yX6_onFirst, Cond.instanceMethod yX6_onFirst, Cond.selects RX6 yX6_onFirst yX6_onFirst, Cond.code yX6_onFirst cX6_onFirst 5 (some .int), Cond.methodLink RX6 30 yX6_lines, Cond.instanceMethod yX6_lines, Cond.selects RX6 yX6_lines yX6_lines, Cond.code yX6_lines cX6_lines 2 (some .int), Cond.methodLink RX6 41 yX6_of, Cond.instanceMethod yX6_of, Cond.selects RX6 yX6_of yX6_of]
def wsX6_onFirstLink_r2 : List Cond := [Cond.code yX6_of cX6_of 4 (some .int)]
def wsX6_onFirstLink : List Cond := .code yX6_onFirstLink cX6_onFirstLink 4 (some .int) :: ((wsX6_onFirstLink_r1 ++ wsX6_onFirstLink_r2) ++ wsX60)
def wsX6_onLastLink_r1 : List Cond := [Cond.methodLink RX6 176 yX6_isBoard, Cond.instanceMethod yX6_isBoard, Cond.selects RX6 yX6_isBoard yX6_isBoard, Cond.initialized RX6, Cond.code yX6_isBoard cX6_isBoard 2 (some .boolean), Cond.fieldLink RX6 7 "ClosExchangeModel" "s" "[I", Cond.methodLink RX6 34 yX6_in, Cond.static yX6_in, Cond.code yX6_in cX6_in 3 (some .boolean), Cond.methodLink RX6 87 yX6_isMiddle, Cond.instanceMethod yX6_isMiddle, Cond.selects RX6 yX6_isMiddle yX6_isMiddle, Cond.code yX6_isMiddle cX6_isMiddle 3 (some .boolean), Cond.methodLink RX6 48 yX6_onLast, Cond.instanceMethod yX6_onLast, Cond.selects RX6 yX6_onLast yX6_onLast, Cond.code yX6_onLast cX6_onLast 5 (some .int), Cond.methodLink RX6 30 yX6_lines, Cond.instanceMethod yX6_lines, Cond.selects RX6 yX6_lines yX6_lines, Cond.code yX6_lines cX6_lines 2 (some .int), Cond.methodLink RX6 41 yX6_of, Cond.instanceMethod yX6_of, Cond.selects RX6 yX6_of yX6_of]
def wsX6_onLastLink_r2 : List Cond := [Cond.code yX6_of cX6_of 4 (some .int)]
def wsX6_onLastLink : List Cond := .code yX6_onLastLink cX6_onLastLink 4 (some .int) :: ((wsX6_onLastLink_r1 ++ wsX6_onLastLink_r2) ++ wsX60)
def wsX6_load : List Cond := .code yX6_load cX6_load 2 (some .int) :: ([.methodLink RX6 87 yX6_isMiddle, .instanceMethod yX6_isMiddle, .selects RX6 yX6_isMiddle yX6_isMiddle, .initialized RX6, .code yX6_isMiddle cX6_isMiddle 3 (some .boolean), .fieldLink RX6 7 "ClosExchangeModel" "s" "[I", .methodLink RX6 34 yX6_in, .static yX6_in, .code yX6_in cX6_in 3 (some .boolean), .methodLink RX6 54 yX6_loadOf, .instanceMethod yX6_loadOf, .selects RX6 yX6_loadOf yX6_loadOf, .code yX6_loadOf cX6_loadOf 5 (some .int), .methodLink RX6 30 yX6_lines, .instanceMethod yX6_lines, .selects RX6 yX6_lines yX6_lines, .code yX6_lines cX6_lines 2 (some .int), .methodLink RX6 41 yX6_of, .instanceMethod yX6_of, .selects RX6 yX6_of yX6_of, .code yX6_of cX6_of 4 (some .int)] ++ wsX60)
def wsX6_freeForFirst_r1 : List Cond := [Cond.methodLink RX6 176 yX6_isBoard, Cond.instanceMethod yX6_isBoard, Cond.selects RX6 yX6_isBoard yX6_isBoard, Cond.initialized RX6, Cond.code yX6_isBoard cX6_isBoard 2 (some .boolean), Cond.fieldLink RX6 7 "ClosExchangeModel" "s" "[I", Cond.methodLink RX6 34 yX6_in, Cond.static yX6_in, Cond.code yX6_in cX6_in 3 (some .boolean), Cond.methodLink RX6 62 yX6_freeAhead, Cond.instanceMethod yX6_freeAhead, Cond.selects RX6 yX6_freeAhead yX6_freeAhead, Cond.code yX6_freeAhead cX6_freeAhead 5 (some .int), Cond.methodLink RX6 26 yX6_has, Cond.static yX6_has, Cond.code yX6_has cX6_has 2 (some .boolean), Cond.methodLink RX6 45 yX6_onFirst, Cond.instanceMethod yX6_onFirst, Cond.selects RX6 yX6_onFirst yX6_onFirst, Cond.code yX6_onFirst cX6_onFirst 5 (some .int), Cond.methodLink RX6 30 yX6_lines, Cond.instanceMethod yX6_lines, Cond.selects RX6 yX6_lines yX6_lines, Cond.code yX6_lines cX6_lines 2 (some .int)]
def wsX6_freeForFirst_r2 : List Cond := [Cond.methodLink RX6 41 yX6_of, Cond.instanceMethod yX6_of, Cond.selects RX6 yX6_of yX6_of, Cond.code yX6_of cX6_of 4 (some .int)]
def wsX6_freeForFirst : List Cond := .code yX6_freeForFirst cX6_freeForFirst 2 (some .int) :: ((wsX6_freeForFirst_r1 ++ wsX6_freeForFirst_r2) ++ wsX60)
def wsX6_freeForLast_r1 : List Cond := [Cond.methodLink RX6 176 yX6_isBoard, Cond.instanceMethod yX6_isBoard, Cond.selects RX6 yX6_isBoard yX6_isBoard, Cond.initialized RX6, Cond.code yX6_isBoard cX6_isBoard 2 (some .boolean), Cond.fieldLink RX6 7 "ClosExchangeModel" "s" "[I", Cond.methodLink RX6 34 yX6_in, Cond.static yX6_in, Cond.code yX6_in cX6_in 3 (some .boolean), Cond.methodLink RX6 65 yX6_freeBehind, Cond.instanceMethod yX6_freeBehind, Cond.selects RX6 yX6_freeBehind yX6_freeBehind, Cond.code yX6_freeBehind cX6_freeBehind 5 (some .int), Cond.methodLink RX6 26 yX6_has, Cond.static yX6_has, Cond.code yX6_has cX6_has 2 (some .boolean), Cond.methodLink RX6 48 yX6_onLast, Cond.instanceMethod yX6_onLast, Cond.selects RX6 yX6_onLast yX6_onLast, Cond.code yX6_onLast cX6_onLast 5 (some .int), Cond.methodLink RX6 30 yX6_lines, Cond.instanceMethod yX6_lines, Cond.selects RX6 yX6_lines yX6_lines, Cond.code yX6_lines cX6_lines 2 (some .int)]
def wsX6_freeForLast_r2 : List Cond := [Cond.methodLink RX6 41 yX6_of, Cond.instanceMethod yX6_of, Cond.selects RX6 yX6_of yX6_of, Cond.code yX6_of cX6_of 4 (some .int)]
def wsX6_freeForLast : List Cond := .code yX6_freeForLast cX6_freeForLast 2 (some .int) :: ((wsX6_freeForLast_r1 ++ wsX6_freeForLast_r2) ++ wsX60)
def wsX6_inService : List Cond := .code yX6_inService cX6_inService 1 (some .int) :: ([.fieldLink RX6 7 "ClosExchangeModel" "s" "[I"] ++ wsX60)
def wsX6_total : List Cond := .code yX6_total cX6_total 2 (some .int) :: ([.fieldLink RX6 7 "ClosExchangeModel" "s" "[I", .fieldLink RX6 102 "ClosExchangeModel" "states" "I", .fieldLink RX6 130 "ClosExchangeModel" "typed" "I", .methodLink RX6 96 yX6_calls, .instanceMethod yX6_calls, .selects RX6 yX6_calls yX6_calls, .initialized RX6, .code yX6_calls cX6_calls 4 (some .int), .methodLink RX6 30 yX6_lines, .instanceMethod yX6_lines, .selects RX6 yX6_lines yX6_lines, .code yX6_lines cX6_lines 2 (some .int), .methodLink RX6 41 yX6_of, .instanceMethod yX6_of, .selects RX6 yX6_of yX6_of, .code yX6_of cX6_of 4 (some .int)] ++ wsX60)
def wsX6_wouldMove_r1 : List Cond := [Cond.fieldLink RX6 68 "ClosExchangeModel" "chained" "I", Cond.methodLink RX6 105 yX6_copies, Cond.instanceMethod yX6_copies, Cond.selects RX6 yX6_copies yX6_copies, Cond.initialized RX6, Cond.code yX6_copies cX6_copies 4 none, Cond.fieldLink RX6 7 "ClosExchangeModel" "s" "[I", Cond.methodLink RX6 115 yX6_connects, Cond.instanceMethod yX6_connects, Cond.selects RX6 yX6_connects yX6_connects, Cond.code yX6_connects cX6_connects 4 (some .int), Cond.methodLink RX6 78 yX6_isLine, Cond.instanceMethod yX6_isLine, Cond.selects RX6 yX6_isLine yX6_isLine, Cond.code yX6_isLine cX6_isLine 3 (some .boolean), Cond.methodLink RX6 30 yX6_lines, Cond.instanceMethod yX6_lines, Cond.selects RX6 yX6_lines yX6_lines, Cond.code yX6_lines cX6_lines 2 (some .int), Cond.methodLink RX6 34 yX6_in, Cond.static yX6_in, Cond.code yX6_in cX6_in 3 (some .boolean), Cond.methodLink RX6 41 yX6_of, Cond.instanceMethod yX6_of]
def wsX6_wouldMove_r2 : List Cond := [Cond.selects RX6 yX6_of yX6_of, Cond.code yX6_of cX6_of 4 (some .int), Cond.methodLink RX6 81 yX6_inletTo, Cond.instanceMethod yX6_inletTo, Cond.selects RX6 yX6_inletTo yX6_inletTo, Cond.code yX6_inletTo cX6_inletTo 4 (some .int), Cond.methodLink RX6 38 yX6_lay, Cond.instanceMethod yX6_lay, Cond.selects RX6 yX6_lay yX6_lay, Cond.code yX6_lay cX6_lay 5 none, Cond.methodLink RX6 84 yX6_routes, Cond.instanceMethod yX6_routes, Cond.selects RX6 yX6_routes yX6_routes, Cond.code yX6_routes cX6_routes 9 (some .int), Cond.fieldLink RX6 16 "ClosExchangeModel" "chain" "[I", Cond.methodLink RX6 62 yX6_freeAhead, Cond.instanceMethod yX6_freeAhead, Cond.selects RX6 yX6_freeAhead yX6_freeAhead, Cond.code yX6_freeAhead cX6_freeAhead 5 (some .int), Cond.methodLink RX6 26 yX6_has, Cond.static yX6_has, Cond.code yX6_has cX6_has 2 (some .boolean), Cond.methodLink RX6 45 yX6_onFirst, Cond.instanceMethod yX6_onFirst]
def wsX6_wouldMove_r3 : List Cond := [Cond.selects RX6 yX6_onFirst yX6_onFirst, Cond.code yX6_onFirst cX6_onFirst 5 (some .int), Cond.methodLink RX6 65 yX6_freeBehind, Cond.instanceMethod yX6_freeBehind, Cond.selects RX6 yX6_freeBehind yX6_freeBehind, Cond.code yX6_freeBehind cX6_freeBehind 5 (some .int), Cond.methodLink RX6 48 yX6_onLast, Cond.instanceMethod yX6_onLast, Cond.selects RX6 yX6_onLast yX6_onLast, Cond.code yX6_onLast cX6_onLast 5 (some .int), Cond.methodLink RX6 72 yX6_chosen, Cond.instanceMethod yX6_chosen, Cond.selects RX6 yX6_chosen yX6_chosen, Cond.code yX6_chosen cX6_chosen 7 (some .int), Cond.methodLink RX6 51 yX6_lowest, Cond.static yX6_lowest, Cond.code yX6_lowest cX6_lowest 2 (some .int), Cond.methodLink RX6 54 yX6_loadOf, Cond.instanceMethod yX6_loadOf, Cond.selects RX6 yX6_loadOf yX6_loadOf, Cond.code yX6_loadOf cX6_loadOf 5 (some .int), Cond.methodLink RX6 75 yX6_pairOf, Cond.instanceMethod yX6_pairOf, Cond.selects RX6 yX6_pairOf yX6_pairOf]
def wsX6_wouldMove_r4 : List Cond := [Cond.code yX6_pairOf cX6_pairOf 10 (some .int), Cond.methodLink RX6 58 yX6_lays, Cond.instanceMethod yX6_lays, Cond.selects RX6 yX6_lays yX6_lays, Cond.code yX6_lays cX6_lays 8 (some .int)]
def wsX6_wouldMove : List Cond := .code yX6_wouldMove cX6_wouldMove 4 (some .int) :: ((wsX6_wouldMove_r1 ++ (wsX6_wouldMove_r2 ++ (wsX6_wouldMove_r3 ++ wsX6_wouldMove_r4))) ++ wsX60)
def wsX6_chainCall_r1 : List Cond := [Cond.fieldLink RX6 68 "ClosExchangeModel" "chained" "I", Cond.fieldLink RX6 16 "ClosExchangeModel" "chain" "[I", Cond.methodLink RX6 105 yX6_copies, Cond.instanceMethod yX6_copies, Cond.selects RX6 yX6_copies yX6_copies, Cond.initialized RX6, Cond.code yX6_copies cX6_copies 4 none, Cond.fieldLink RX6 7 "ClosExchangeModel" "s" "[I", Cond.methodLink RX6 115 yX6_connects, Cond.instanceMethod yX6_connects, Cond.selects RX6 yX6_connects yX6_connects, Cond.code yX6_connects cX6_connects 4 (some .int), Cond.methodLink RX6 78 yX6_isLine, Cond.instanceMethod yX6_isLine, Cond.selects RX6 yX6_isLine yX6_isLine, Cond.code yX6_isLine cX6_isLine 3 (some .boolean), Cond.methodLink RX6 30 yX6_lines, Cond.instanceMethod yX6_lines, Cond.selects RX6 yX6_lines yX6_lines, Cond.code yX6_lines cX6_lines 2 (some .int), Cond.methodLink RX6 34 yX6_in, Cond.static yX6_in, Cond.code yX6_in cX6_in 3 (some .boolean), Cond.methodLink RX6 41 yX6_of]
def wsX6_chainCall_r2 : List Cond := [Cond.instanceMethod yX6_of, Cond.selects RX6 yX6_of yX6_of, Cond.code yX6_of cX6_of 4 (some .int), Cond.methodLink RX6 81 yX6_inletTo, Cond.instanceMethod yX6_inletTo, Cond.selects RX6 yX6_inletTo yX6_inletTo, Cond.code yX6_inletTo cX6_inletTo 4 (some .int), Cond.methodLink RX6 38 yX6_lay, Cond.instanceMethod yX6_lay, Cond.selects RX6 yX6_lay yX6_lay, Cond.code yX6_lay cX6_lay 5 none, Cond.methodLink RX6 84 yX6_routes, Cond.instanceMethod yX6_routes, Cond.selects RX6 yX6_routes yX6_routes, Cond.code yX6_routes cX6_routes 9 (some .int), Cond.methodLink RX6 62 yX6_freeAhead, Cond.instanceMethod yX6_freeAhead, Cond.selects RX6 yX6_freeAhead yX6_freeAhead, Cond.code yX6_freeAhead cX6_freeAhead 5 (some .int), Cond.methodLink RX6 26 yX6_has, Cond.static yX6_has, Cond.code yX6_has cX6_has 2 (some .boolean), Cond.methodLink RX6 45 yX6_onFirst, Cond.instanceMethod yX6_onFirst]
def wsX6_chainCall_r3 : List Cond := [Cond.selects RX6 yX6_onFirst yX6_onFirst, Cond.code yX6_onFirst cX6_onFirst 5 (some .int), Cond.methodLink RX6 65 yX6_freeBehind, Cond.instanceMethod yX6_freeBehind, Cond.selects RX6 yX6_freeBehind yX6_freeBehind, Cond.code yX6_freeBehind cX6_freeBehind 5 (some .int), Cond.methodLink RX6 48 yX6_onLast, Cond.instanceMethod yX6_onLast, Cond.selects RX6 yX6_onLast yX6_onLast, Cond.code yX6_onLast cX6_onLast 5 (some .int), Cond.methodLink RX6 72 yX6_chosen, Cond.instanceMethod yX6_chosen, Cond.selects RX6 yX6_chosen yX6_chosen, Cond.code yX6_chosen cX6_chosen 7 (some .int), Cond.methodLink RX6 51 yX6_lowest, Cond.static yX6_lowest, Cond.code yX6_lowest cX6_lowest 2 (some .int), Cond.methodLink RX6 54 yX6_loadOf, Cond.instanceMethod yX6_loadOf, Cond.selects RX6 yX6_loadOf yX6_loadOf, Cond.code yX6_loadOf cX6_loadOf 5 (some .int), Cond.methodLink RX6 75 yX6_pairOf, Cond.instanceMethod yX6_pairOf, Cond.selects RX6 yX6_pairOf yX6_pairOf]
def wsX6_chainCall_r4 : List Cond := [Cond.code yX6_pairOf cX6_pairOf 10 (some .int), Cond.methodLink RX6 58 yX6_lays, Cond.instanceMethod yX6_lays, Cond.selects RX6 yX6_lays yX6_lays, Cond.code yX6_lays cX6_lays 8 (some .int)]
def wsX6_chainCall : List Cond := .code yX6_chainCall cX6_chainCall 5 (some .int) :: ((wsX6_chainCall_r1 ++ (wsX6_chainCall_r2 ++ (wsX6_chainCall_r3 ++ wsX6_chainCall_r4))) ++ wsX60)
def wsX6_reason_r1 : List Cond := [Cond.fieldLink RX6 7 "ClosExchangeModel" "s" "[I", Cond.methodLink RX6 78 yX6_isLine, Cond.instanceMethod yX6_isLine, Cond.selects RX6 yX6_isLine yX6_isLine, Cond.initialized RX6, Cond.code yX6_isLine cX6_isLine 3 (some .boolean), Cond.methodLink RX6 30 yX6_lines, Cond.instanceMethod yX6_lines, Cond.selects RX6 yX6_lines yX6_lines, Cond.code yX6_lines cX6_lines 2 (some .int), Cond.methodLink RX6 34 yX6_in, Cond.static yX6_in, Cond.code yX6_in cX6_in 3 (some .boolean), Cond.methodLink RX6 41 yX6_of, Cond.instanceMethod yX6_of, Cond.selects RX6 yX6_of yX6_of, Cond.code yX6_of cX6_of 4 (some .int), Cond.methodLink RX6 81 yX6_inletTo, Cond.instanceMethod yX6_inletTo, Cond.selects RX6 yX6_inletTo yX6_inletTo, Cond.code yX6_inletTo cX6_inletTo 4 (some .int), Cond.methodLink RX6 62 yX6_freeAhead, Cond.instanceMethod yX6_freeAhead, Cond.selects RX6 yX6_freeAhead yX6_freeAhead]
def wsX6_reason_r2 : List Cond := [Cond.code yX6_freeAhead cX6_freeAhead 5 (some .int), Cond.methodLink RX6 26 yX6_has, Cond.static yX6_has, Cond.code yX6_has cX6_has 2 (some .boolean), Cond.methodLink RX6 45 yX6_onFirst, Cond.instanceMethod yX6_onFirst, Cond.selects RX6 yX6_onFirst yX6_onFirst, Cond.code yX6_onFirst cX6_onFirst 5 (some .int), Cond.methodLink RX6 65 yX6_freeBehind, Cond.instanceMethod yX6_freeBehind, Cond.selects RX6 yX6_freeBehind yX6_freeBehind, Cond.code yX6_freeBehind cX6_freeBehind 5 (some .int), Cond.methodLink RX6 48 yX6_onLast, Cond.instanceMethod yX6_onLast, Cond.selects RX6 yX6_onLast yX6_onLast, Cond.code yX6_onLast cX6_onLast 5 (some .int)]
def wsX6_reason : List Cond := .code yX6_reason cX6_reason 5 (some .int) :: ((wsX6_reason_r1 ++ wsX6_reason_r2) ++ wsX60)
def wsX6_leastMiddles : List Cond := .code yX6_leastMiddles cX6_leastMiddles 1 (some .int) :: ([.methodLink RX6 99 yX6_least, .instanceMethod yX6_least, .selects RX6 yX6_least yX6_least, .initialized RX6, .code yX6_least cX6_least 8 (some .int), .fieldLink RX6 7 "ClosExchangeModel" "s" "[I", .methodLink RX6 30 yX6_lines, .instanceMethod yX6_lines, .selects RX6 yX6_lines yX6_lines, .code yX6_lines cX6_lines 2 (some .int), .methodLink RX6 41 yX6_of, .instanceMethod yX6_of, .selects RX6 yX6_of yX6_of, .code yX6_of cX6_of 4 (some .int)] ++ wsX60)
def wsX6_wouldDrop_r1 : List Cond := [Cond.methodLink RX6 105 yX6_copies, Cond.instanceMethod yX6_copies, Cond.selects RX6 yX6_copies yX6_copies, Cond.initialized RX6, Cond.code yX6_copies cX6_copies 4 none, Cond.fieldLink RX6 7 "ClosExchangeModel" "s" "[I", Cond.methodLink RX6 121 yX6_takesOut, Cond.instanceMethod yX6_takesOut, Cond.selects RX6 yX6_takesOut yX6_takesOut, Cond.code yX6_takesOut cX6_takesOut 5 (some .int), Cond.methodLink RX6 87 yX6_isMiddle, Cond.instanceMethod yX6_isMiddle, Cond.selects RX6 yX6_isMiddle yX6_isMiddle, Cond.code yX6_isMiddle cX6_isMiddle 3 (some .boolean), Cond.methodLink RX6 34 yX6_in, Cond.static yX6_in, Cond.code yX6_in cX6_in 3 (some .boolean), Cond.methodLink RX6 26 yX6_has, Cond.static yX6_has, Cond.code yX6_has cX6_has 2 (some .boolean), Cond.methodLink RX6 30 yX6_lines, Cond.instanceMethod yX6_lines, Cond.selects RX6 yX6_lines yX6_lines, Cond.code yX6_lines cX6_lines 2 (some .int)]
def wsX6_wouldDrop_r2 : List Cond := [Cond.methodLink RX6 41 yX6_of, Cond.instanceMethod yX6_of, Cond.selects RX6 yX6_of yX6_of, Cond.code yX6_of cX6_of 4 (some .int), Cond.methodLink RX6 38 yX6_lay, Cond.instanceMethod yX6_lay, Cond.selects RX6 yX6_lay yX6_lay, Cond.code yX6_lay cX6_lay 5 none, Cond.methodLink RX6 90 yX6_nextOff, Cond.instanceMethod yX6_nextOff, Cond.selects RX6 yX6_nextOff yX6_nextOff, Cond.code yX6_nextOff cX6_nextOff 5 (some .int), Cond.methodLink RX6 84 yX6_routes, Cond.instanceMethod yX6_routes, Cond.selects RX6 yX6_routes yX6_routes, Cond.code yX6_routes cX6_routes 9 (some .int), Cond.fieldLink RX6 68 "ClosExchangeModel" "chained" "I", Cond.fieldLink RX6 16 "ClosExchangeModel" "chain" "[I", Cond.methodLink RX6 62 yX6_freeAhead, Cond.instanceMethod yX6_freeAhead, Cond.selects RX6 yX6_freeAhead yX6_freeAhead, Cond.code yX6_freeAhead cX6_freeAhead 5 (some .int), Cond.methodLink RX6 45 yX6_onFirst, Cond.instanceMethod yX6_onFirst]
def wsX6_wouldDrop_r3 : List Cond := [Cond.selects RX6 yX6_onFirst yX6_onFirst, Cond.code yX6_onFirst cX6_onFirst 5 (some .int), Cond.methodLink RX6 65 yX6_freeBehind, Cond.instanceMethod yX6_freeBehind, Cond.selects RX6 yX6_freeBehind yX6_freeBehind, Cond.code yX6_freeBehind cX6_freeBehind 5 (some .int), Cond.methodLink RX6 48 yX6_onLast, Cond.instanceMethod yX6_onLast, Cond.selects RX6 yX6_onLast yX6_onLast, Cond.code yX6_onLast cX6_onLast 5 (some .int), Cond.methodLink RX6 72 yX6_chosen, Cond.instanceMethod yX6_chosen, Cond.selects RX6 yX6_chosen yX6_chosen, Cond.code yX6_chosen cX6_chosen 7 (some .int), Cond.methodLink RX6 51 yX6_lowest, Cond.static yX6_lowest, Cond.code yX6_lowest cX6_lowest 2 (some .int), Cond.methodLink RX6 54 yX6_loadOf, Cond.instanceMethod yX6_loadOf, Cond.selects RX6 yX6_loadOf yX6_loadOf, Cond.code yX6_loadOf cX6_loadOf 5 (some .int), Cond.methodLink RX6 75 yX6_pairOf, Cond.instanceMethod yX6_pairOf, Cond.selects RX6 yX6_pairOf yX6_pairOf]
def wsX6_wouldDrop_r4 : List Cond := [Cond.code yX6_pairOf cX6_pairOf 10 (some .int), Cond.methodLink RX6 58 yX6_lays, Cond.instanceMethod yX6_lays, Cond.selects RX6 yX6_lays yX6_lays, Cond.code yX6_lays cX6_lays 8 (some .int)]
def wsX6_wouldDrop : List Cond := .code yX6_wouldDrop cX6_wouldDrop 2 (some .int) :: ((wsX6_wouldDrop_r1 ++ (wsX6_wouldDrop_r2 ++ (wsX6_wouldDrop_r3 ++ wsX6_wouldDrop_r4))) ++ wsX60)
def wsX6_reachable_r1 : List Cond := [Cond.fieldLink RX6 7 "ClosExchangeModel" "s" "[I", Cond.methodLink RX6 78 yX6_isLine, Cond.instanceMethod yX6_isLine, Cond.selects RX6 yX6_isLine yX6_isLine, Cond.initialized RX6, Cond.code yX6_isLine cX6_isLine 3 (some .boolean), Cond.methodLink RX6 30 yX6_lines, Cond.instanceMethod yX6_lines, Cond.selects RX6 yX6_lines yX6_lines, Cond.code yX6_lines cX6_lines 2 (some .int), Cond.methodLink RX6 34 yX6_in, Cond.static yX6_in, Cond.code yX6_in cX6_in 3 (some .boolean), Cond.methodLink RX6 41 yX6_of, Cond.instanceMethod yX6_of, Cond.selects RX6 yX6_of yX6_of, Cond.code yX6_of cX6_of 4 (some .int), Cond.methodLink RX6 62 yX6_freeAhead, Cond.instanceMethod yX6_freeAhead, Cond.selects RX6 yX6_freeAhead yX6_freeAhead, Cond.code yX6_freeAhead cX6_freeAhead 5 (some .int), Cond.methodLink RX6 26 yX6_has, Cond.static yX6_has, Cond.code yX6_has cX6_has 2 (some .boolean)]
def wsX6_reachable_r2 : List Cond := [Cond.methodLink RX6 45 yX6_onFirst, Cond.instanceMethod yX6_onFirst, Cond.selects RX6 yX6_onFirst yX6_onFirst, Cond.code yX6_onFirst cX6_onFirst 5 (some .int), Cond.methodLink RX6 81 yX6_inletTo, Cond.instanceMethod yX6_inletTo, Cond.selects RX6 yX6_inletTo yX6_inletTo, Cond.code yX6_inletTo cX6_inletTo 4 (some .int), Cond.methodLink RX6 65 yX6_freeBehind, Cond.instanceMethod yX6_freeBehind, Cond.selects RX6 yX6_freeBehind yX6_freeBehind, Cond.code yX6_freeBehind cX6_freeBehind 5 (some .int), Cond.methodLink RX6 48 yX6_onLast, Cond.instanceMethod yX6_onLast, Cond.selects RX6 yX6_onLast yX6_onLast, Cond.code yX6_onLast cX6_onLast 5 (some .int)]
def wsX6_reachable : List Cond := .code yX6_reachable cX6_reachable 6 (some .int) :: ((wsX6_reachable_r1 ++ wsX6_reachable_r2) ++ wsX60)
def wsJ9_max_7cf53 : List Cond := .code yJ9_max_7cf53 cJ9_max_7cf53 2 (some .int) :: ([])
def wsJ9_min_7cf53 : List Cond := .code yJ9_min_7cf53 cJ9_min_7cf53 2 (some .int) :: ([])
def wsL_law_r1 : List Cond := [Cond.classLink RL 7 RX5, Cond.instantiable RX5 8, Cond.initialized RX5, Cond.classLink RL 10 RX6, Cond.instantiable RX6 12, Cond.initialized RX6, Cond.methodLink RL 9 yX5_init, Cond.instanceMethod yX5_init, Cond.code yX5_init cX5_init 1 none, Cond.methodLink RX5 3 objectInit, Cond.instanceMethod objectInit, Cond.code objectInit ⟨#[0xb1]⟩ 1 none, Cond.classLink RX5 9 RX1, Cond.instantiable RX1 16, Cond.initialized RX1, Cond.fieldLink RX5 12 "ClosExchange" "network" "LClosExchange$Network;", Cond.fieldLink RX5 16 "ClosExchange" "before" "LClosExchange$Network;", Cond.fieldLink RX5 19 "ClosExchange" "snapshot" "LClosExchange$Network;", Cond.fieldLink RX5 22 "ClosExchange" "trial" "LClosExchange$Network;", Cond.classLink RX5 25 RX3, Cond.instantiable RX3 5, Cond.initialized RX3, Cond.fieldLink RX5 28 "ClosExchange" "router" "LClosExchange$Router;", Cond.classLink RX5 32 RX0]
def wsL_law_r2 : List Cond := [Cond.instantiable RX0 3, Cond.initialized RX0, Cond.fieldLink RX5 35 "ClosExchange" "history" "LClosExchange$History;", Cond.classLink RX5 39 RX2, Cond.instantiable RX2 6, Cond.initialized RX2, Cond.fieldLink RX5 42 "ClosExchange" "text" "LClosExchange$OrderText;", Cond.fieldLink RX5 46 "ClosExchange" "kept" "Z", Cond.methodLink RX5 11 yX1_init, Cond.instanceMethod yX1_init, Cond.code yX1_init cX1_init 1 none, Cond.methodLink RX1 3 objectInit, Cond.fieldLink RX1 9 "ClosExchange$Network" "boards" "I", Cond.fieldLink RX1 15 "ClosExchange$Network" "lines" "I", Cond.fieldLink RX1 18 "ClosExchange$Network" "middles" "I", Cond.fieldLink RX1 21 "ClosExchange$Network" "service" "I", Cond.classLink RX1 24 RX4, Cond.instantiable RX4 1, Cond.initialized RX4, Cond.fieldLink RX1 29 "ClosExchange$Network" "numbers" "LClosExchange$Row;", Cond.fieldLink RX1 33 "ClosExchange$Network" "outlets" "LClosExchange$Row;", Cond.fieldLink RX1 36 "ClosExchange$Network" "vias" "LClosExchange$Row;", Cond.fieldLink RX1 39 "ClosExchange$Network" "inlets" "LClosExchange$Row;", Cond.fieldLink RX1 42 "ClosExchange$Network" "firstLinks" "LClosExchange$Row;"]
def wsL_law_r3 : List Cond := [Cond.fieldLink RX1 45 "ClosExchange$Network" "lastLinks" "LClosExchange$Row;", Cond.methodLink RX1 26 yX4_init, Cond.instanceMethod yX4_init, Cond.code yX4_init cX4_init 2 none, Cond.methodLink RX4 3 objectInit, Cond.methodLink RX4 9 Lib.Math.max.name, Cond.static Lib.Math.max.name, Cond.initialized "java/lang/Math", Cond.code Lib.Math.max.name Lib.Math.max.code 2 (some .int), Cond.arrayClass .int, Cond.fieldLink RX4 15 "ClosExchange$Row" "cells" "[I", Cond.methodLink RX4 21 yJ7_fill_53178, Cond.static yJ7_fill_53178, Cond.initialized RJ7, Cond.code yJ7_fill_53178 cJ7_fill_53178 4 none, Cond.methodLink RX5 27 yX3_init, Cond.instanceMethod yX3_init, Cond.code yX3_init cX3_init 1 none, Cond.methodLink RX3 3 objectInit, Cond.classLink RX3 9 RX4, Cond.fieldLink RX3 14 "ClosExchange$Router" "chain" "LClosExchange$Row;", Cond.fieldLink RX3 20 "ClosExchange$Router" "formerVias" "LClosExchange$Row;", Cond.methodLink RX3 11 yX4_init, Cond.methodLink RX5 34 yX0_init]
def wsL_law_r4 : List Cond := [Cond.instanceMethod yX0_init, Cond.code yX0_init cX0_init 2 none, Cond.methodLink RX0 3 objectInit, Cond.classLink RX0 9 RX1, Cond.fieldLink RX0 11 "ClosExchange$History" "states" "[LClosExchange$Network;", Cond.methodLink RX0 17 yX1_init, Cond.methodLink RX5 41 yX2_init, Cond.instanceMethod yX2_init, Cond.code yX2_init cX2_init 1 none, Cond.methodLink RX2 3 objectInit, Cond.classLink RX2 9 RX4, Cond.fieldLink RX2 14 "ClosExchange$OrderText" "signs" "LClosExchange$Row;", Cond.methodLink RX2 11 yX4_init, Cond.methodLink RL 12 yX6_init, Cond.instanceMethod yX6_init, Cond.code yX6_init cX6_init 1 none, Cond.methodLink RX6 1 objectInit, Cond.fieldLink RX6 7 "ClosExchangeModel" "s" "[I", Cond.fieldLink RX6 13 "ClosExchangeModel" "text" "[I", Cond.fieldLink RX6 16 "ClosExchangeModel" "chain" "[I", Cond.fieldLink RX6 19 "ClosExchangeModel" "before" "[I", Cond.methodLink RX6 22 yX6_builds, Cond.instanceMethod yX6_builds, Cond.selects RX6 yX6_builds yX6_builds]
def wsL_law_r5 : List Cond := [Cond.code yX6_builds cX6_builds 6 none, Cond.methodLink RX6 38 yX6_lay, Cond.instanceMethod yX6_lay, Cond.selects RX6 yX6_lay yX6_lay, Cond.code yX6_lay cX6_lay 5 none, Cond.methodLink RL 13 yX5_setUp, Cond.instanceMethod yX5_setUp, Cond.selects RX5 yX5_setUp yX5_setUp, Cond.code yX5_setUp cX5_setUp 4 (some .int), Cond.methodLink RX5 50 yX5_within, Cond.static yX5_within, Cond.code yX5_within cX5_within 3 (some .boolean), Cond.methodLink RX5 54 yX0_push, Cond.instanceMethod yX0_push, Cond.selects RX0 yX0_push yX0_push, Cond.code yX0_push cX0_push 3 none, Cond.fieldLink RX0 18 "ClosExchange$History" "latest" "I", Cond.fieldLink RX0 30 "ClosExchange$History" "count" "I", Cond.methodLink RX0 33 Lib.Math.min.name, Cond.static Lib.Math.min.name, Cond.code Lib.Math.min.name Lib.Math.min.code 2 (some .int), Cond.methodLink RX0 22 yX0_latestState, Cond.instanceMethod yX0_latestState, Cond.selects RX0 yX0_latestState yX0_latestState]
def wsL_law_r6 : List Cond := [Cond.code yX0_latestState cX0_latestState 1 (some (.object "ClosExchange$Network")), Cond.methodLink RX0 26 yX1_copyFrom, Cond.instanceMethod yX1_copyFrom, Cond.selects RX1 yX1_copyFrom yX1_copyFrom, Cond.code yX1_copyFrom cX1_copyFrom 2 none, Cond.fieldLink RX1 48 "ClosExchange$Network" "choiceRule" "I", Cond.fieldLink RX1 51 "ClosExchange$Network" "pairRule" "I", Cond.fieldLink RX1 54 "ClosExchange$Network" "connected" "I", Cond.fieldLink RX1 57 "ClosExchange$Network" "ended" "I", Cond.fieldLink RX1 60 "ClosExchange$Network" "dropped" "I", Cond.fieldLink RX1 63 "ClosExchange$Network" "moved" "I", Cond.methodLink RX1 66 yX4_copyFrom, Cond.instanceMethod yX4_copyFrom, Cond.selects RX4 yX4_copyFrom yX4_copyFrom, Cond.code yX4_copyFrom cX4_copyFrom 2 none, Cond.methodLink RX4 27 Lib.Math.min.name, Cond.methodLink RX4 30 arraycopyName, Cond.native arraycopyName, Cond.static arraycopyName, Cond.initialized "java/lang/System", Cond.methodLink RX5 58 yX1_rebuild, Cond.instanceMethod yX1_rebuild, Cond.selects RX1 yX1_rebuild yX1_rebuild, Cond.code yX1_rebuild cX1_rebuild 5 (some .int)]
def wsL_law_r7 : List Cond := [Cond.methodLink RX1 70 yX1_countCalls, Cond.instanceMethod yX1_countCalls, Cond.selects RX1 yX1_countCalls yX1_countCalls, Cond.code yX1_countCalls cX1_countCalls 3 (some .int), Cond.methodLink RX1 77 yX4_get, Cond.instanceMethod yX4_get, Cond.selects RX4 yX4_get yX4_get, Cond.code yX4_get cX4_get 2 (some .int), Cond.methodLink RX1 74 yX4_empty, Cond.instanceMethod yX4_empty, Cond.selects RX4 yX4_empty yX4_empty, Cond.code yX4_empty cX4_empty 1 none, Cond.methodLink RL 17 yX6_setUp, Cond.instanceMethod yX6_setUp, Cond.selects RX6 yX6_setUp yX6_setUp, Cond.code yX6_setUp cX6_setUp 5 (some .int), Cond.methodLink RX6 34 yX6_in, Cond.static yX6_in, Cond.code yX6_in cX6_in 3 (some .boolean), Cond.methodLink RX6 105 yX6_copies, Cond.instanceMethod yX6_copies, Cond.selects RX6 yX6_copies yX6_copies, Cond.code yX6_copies cX6_copies 4 none, Cond.methodLink RX6 96 yX6_calls]
def wsL_law_r8 : List Cond := [Cond.instanceMethod yX6_calls, Cond.selects RX6 yX6_calls yX6_calls, Cond.code yX6_calls cX6_calls 4 (some .int), Cond.methodLink RX6 30 yX6_lines, Cond.instanceMethod yX6_lines, Cond.selects RX6 yX6_lines yX6_lines, Cond.code yX6_lines cX6_lines 2 (some .int), Cond.methodLink RX6 41 yX6_of, Cond.instanceMethod yX6_of, Cond.selects RX6 yX6_of yX6_of, Cond.code yX6_of cX6_of 4 (some .int), Cond.methodLink RX6 109 yX6_accepts, Cond.instanceMethod yX6_accepts, Cond.selects RX6 yX6_accepts yX6_accepts, Cond.code yX6_accepts cX6_accepts 3 (some .int), Cond.fieldLink RX6 102 "ClosExchangeModel" "states" "I", Cond.methodLink RL 18 yX5_setChoiceRule, Cond.instanceMethod yX5_setChoiceRule, Cond.selects RX5 yX5_setChoiceRule yX5_setChoiceRule, Cond.code yX5_setChoiceRule cX5_setChoiceRule 3 (some .int), Cond.fieldLink RX5 62 "ClosExchange$Network" "choiceRule" "I", Cond.methodLink RL 22 yX6_setChoiceRule, Cond.instanceMethod yX6_setChoiceRule, Cond.selects RX6 yX6_setChoiceRule yX6_setChoiceRule]
def wsL_law_r9 : List Cond := [Cond.code yX6_setChoiceRule cX6_setChoiceRule 2 (some .int), Cond.methodLink RX6 112 yX6_rules, Cond.instanceMethod yX6_rules, Cond.selects RX6 yX6_rules yX6_rules, Cond.code yX6_rules cX6_rules 5 (some .int), Cond.methodLink RL 23 yX5_setPairRule, Cond.instanceMethod yX5_setPairRule, Cond.selects RX5 yX5_setPairRule yX5_setPairRule, Cond.code yX5_setPairRule cX5_setPairRule 3 (some .int), Cond.fieldLink RX5 66 "ClosExchange$Network" "pairRule" "I", Cond.methodLink RL 26 yX6_setPairRule, Cond.instanceMethod yX6_setPairRule, Cond.selects RX6 yX6_setPairRule yX6_setPairRule, Cond.code yX6_setPairRule cX6_setPairRule 2 (some .int), Cond.methodLink RL 27 yX5_connect, Cond.instanceMethod yX5_connect, Cond.selects RX5 yX5_connect yX5_connect, Cond.code yX5_connect cX5_connect 3 (some .int), Cond.methodLink RX5 69 yX1_copyFrom, Cond.methodLink RX5 72 yX3_join, Cond.instanceMethod yX3_join, Cond.selects RX3 yX3_join yX3_join, Cond.code yX3_join cX3_join 5 (some .int), Cond.methodLink RX3 23 yX3_tryCall]
def wsL_law_r10 : List Cond := [Cond.instanceMethod yX3_tryCall, Cond.selects RX3 yX3_tryCall yX3_tryCall, Cond.code yX3_tryCall cX3_tryCall 4 (some .int), Cond.methodLink RX3 37 yX1_isLine, Cond.instanceMethod yX1_isLine, Cond.selects RX1 yX1_isLine yX1_isLine, Cond.code yX1_isLine cX1_isLine 2 (some .boolean), Cond.methodLink RX3 41 yX1_isInletBusy, Cond.instanceMethod yX1_isInletBusy, Cond.selects RX1 yX1_isInletBusy yX1_isInletBusy, Cond.code yX1_isInletBusy cX1_isInletBusy 2 (some .boolean), Cond.methodLink RX3 104 yX1_isOutletBusy, Cond.instanceMethod yX1_isOutletBusy, Cond.selects RX1 yX1_isOutletBusy yX1_isOutletBusy, Cond.code yX1_isOutletBusy cX1_isOutletBusy 2 (some .boolean), Cond.methodLink RX3 107 yX3_findWay, Cond.instanceMethod yX3_findWay, Cond.selects RX3 yX3_findWay yX3_findWay, Cond.code yX3_findWay cX3_findWay 7 (some .int), Cond.fieldLink RX3 119 "ClosExchange$Router" "chainLength" "I", Cond.fieldLink RX3 125 "ClosExchange$Network" "firstLinks" "LClosExchange$Row;", Cond.fieldLink RX3 132 "ClosExchange$Network" "lastLinks" "LClosExchange$Row;", Cond.fieldLink RX3 143 "ClosExchange$Router" "pairP" "I", Cond.methodLink RX3 122 yX1_boardOf]
def wsL_law_r11 : List Cond := [Cond.instanceMethod yX1_boardOf, Cond.selects RX1 yX1_boardOf yX1_boardOf, Cond.code yX1_boardOf cX1_boardOf 2 (some .int), Cond.methodLink RX3 128 yX1_freeOnLinks, Cond.instanceMethod yX1_freeOnLinks, Cond.selects RX1 yX1_freeOnLinks yX1_freeOnLinks, Cond.code yX1_freeOnLinks cX1_freeOnLinks 5 (some .int), Cond.static yX5_link, Cond.code yX5_link cX5_link 2 (some .int), Cond.methodLink RX3 135 yX3_choose, Cond.instanceMethod yX3_choose, Cond.selects RX3 yX3_choose yX3_choose, Cond.code yX3_choose cX3_choose 8 (some .int), Cond.fieldLink RX3 146 "ClosExchange$Network" "choiceRule" "I", Cond.static yX5_hasBit, Cond.code yX5_hasBit cX5_hasBit 2 (some .boolean), Cond.methodLink RX3 149 yX1_loadOf, Cond.instanceMethod yX1_loadOf, Cond.selects RX1 yX1_loadOf yX1_loadOf, Cond.code yX1_loadOf cX1_loadOf 4 (some .int), Cond.methodLink RX3 139 yX3_findPair, Cond.instanceMethod yX3_findPair, Cond.selects RX3 yX3_findPair yX3_findPair, Cond.code yX3_findPair cX3_findPair 11 none]
def wsL_law_r12 : List Cond := [Cond.fieldLink RX3 155 "ClosExchange$Network" "pairRule" "I", Cond.methodLink RX3 152 yX3_follow, Cond.instanceMethod yX3_follow, Cond.selects RX3 yX3_follow yX3_follow, Cond.code yX3_follow cX3_follow 9 none, Cond.fieldLink RX3 158 "ClosExchange$Router" "pairQ" "I", Cond.fieldLink RX3 113 "ClosExchange$Network" "outlets" "LClosExchange$Row;", Cond.methodLink RX3 47 yX4_get, Cond.methodLink RX3 164 yX4_set, Cond.instanceMethod yX4_set, Cond.selects RX4 yX4_set yX4_set, Cond.code yX4_set cX4_set 3 none, Cond.methodLink RX3 27 yX1_addCall, Cond.instanceMethod yX1_addCall, Cond.selects RX1 yX1_addCall yX1_addCall, Cond.code yX1_addCall cX1_addCall 3 none, Cond.methodLink RX1 97 yX4_set, Cond.methodLink RX3 33 yX3_settle, Cond.instanceMethod yX3_settle, Cond.selects RX3 yX3_settle yX3_settle, Cond.code yX3_settle cX3_settle 5 none, Cond.fieldLink RX3 87 "ClosExchange$Network" "moved" "I", Cond.methodLink RX3 71 yX1_liftCall, Cond.instanceMethod yX1_liftCall]
def wsL_law_r13 : List Cond := [Cond.selects RX1 yX1_liftCall yX1_liftCall, Cond.code yX1_liftCall cX1_liftCall 3 none, Cond.methodLink RX1 104 yX1_boardOf, Cond.methodLink RX3 167 yX1_carryCall, Cond.instanceMethod yX1_carryCall, Cond.selects RX1 yX1_carryCall yX1_carryCall, Cond.code yX1_carryCall cX1_carryCall 3 none, Cond.methodLink RX5 76 yX5_recorded, Cond.instanceMethod yX5_recorded, Cond.selects RX5 yX5_recorded yX5_recorded, Cond.code yX5_recorded cX5_recorded 2 (some .int), Cond.methodLink RL 31 yX6_connect, Cond.instanceMethod yX6_connect, Cond.selects RX6 yX6_connect yX6_connect, Cond.code yX6_connect cX6_connect 3 (some .int), Cond.methodLink RX6 115 yX6_connects, Cond.instanceMethod yX6_connects, Cond.selects RX6 yX6_connects yX6_connects, Cond.code yX6_connects cX6_connects 4 (some .int), Cond.methodLink RX6 78 yX6_isLine, Cond.instanceMethod yX6_isLine, Cond.selects RX6 yX6_isLine yX6_isLine, Cond.code yX6_isLine cX6_isLine 3 (some .boolean), Cond.methodLink RX6 81 yX6_inletTo]
def wsL_law_r14 : List Cond := [Cond.instanceMethod yX6_inletTo, Cond.selects RX6 yX6_inletTo yX6_inletTo, Cond.code yX6_inletTo cX6_inletTo 4 (some .int), Cond.methodLink RX6 84 yX6_routes, Cond.instanceMethod yX6_routes, Cond.selects RX6 yX6_routes yX6_routes, Cond.code yX6_routes cX6_routes 9 (some .int), Cond.fieldLink RX6 68 "ClosExchangeModel" "chained" "I", Cond.methodLink RX6 62 yX6_freeAhead, Cond.instanceMethod yX6_freeAhead, Cond.selects RX6 yX6_freeAhead yX6_freeAhead, Cond.code yX6_freeAhead cX6_freeAhead 5 (some .int), Cond.methodLink RX6 26 yX6_has, Cond.static yX6_has, Cond.code yX6_has cX6_has 2 (some .boolean), Cond.methodLink RX6 45 yX6_onFirst, Cond.instanceMethod yX6_onFirst, Cond.selects RX6 yX6_onFirst yX6_onFirst, Cond.code yX6_onFirst cX6_onFirst 5 (some .int), Cond.methodLink RX6 65 yX6_freeBehind, Cond.instanceMethod yX6_freeBehind, Cond.selects RX6 yX6_freeBehind yX6_freeBehind, Cond.code yX6_freeBehind cX6_freeBehind 5 (some .int), Cond.methodLink RX6 48 yX6_onLast]
def wsL_law_r15 : List Cond := [Cond.instanceMethod yX6_onLast, Cond.selects RX6 yX6_onLast yX6_onLast, Cond.code yX6_onLast cX6_onLast 5 (some .int), Cond.methodLink RX6 72 yX6_chosen, Cond.instanceMethod yX6_chosen, Cond.selects RX6 yX6_chosen yX6_chosen, Cond.code yX6_chosen cX6_chosen 7 (some .int), Cond.methodLink RX6 51 yX6_lowest, Cond.static yX6_lowest, Cond.code yX6_lowest cX6_lowest 2 (some .int), Cond.methodLink RX6 54 yX6_loadOf, Cond.instanceMethod yX6_loadOf, Cond.selects RX6 yX6_loadOf yX6_loadOf, Cond.code yX6_loadOf cX6_loadOf 5 (some .int), Cond.methodLink RX6 75 yX6_pairOf, Cond.instanceMethod yX6_pairOf, Cond.selects RX6 yX6_pairOf yX6_pairOf, Cond.code yX6_pairOf cX6_pairOf 10 (some .int), Cond.methodLink RX6 58 yX6_lays, Cond.instanceMethod yX6_lays, Cond.selects RX6 yX6_lays yX6_lays, Cond.code yX6_lays cX6_lays 8 (some .int), Cond.methodLink RL 32 yX5_disconnect, Cond.instanceMethod yX5_disconnect]
def wsL_law_r16 : List Cond := [Cond.selects RX5 yX5_disconnect yX5_disconnect, Cond.code yX5_disconnect cX5_disconnect 2 (some .int), Cond.methodLink RX5 80 yX3_part, Cond.instanceMethod yX3_part, Cond.selects RX3 yX3_part yX3_part, Cond.code yX3_part cX3_part 4 (some .int), Cond.fieldLink RX3 44 "ClosExchange$Network" "numbers" "LClosExchange$Row;", Cond.fieldLink RX3 54 "ClosExchange$Network" "ended" "I", Cond.methodLink RX3 51 yX1_removeCall, Cond.instanceMethod yX1_removeCall, Cond.selects RX1 yX1_removeCall yX1_removeCall, Cond.code yX1_removeCall cX1_removeCall 2 none, Cond.methodLink RX1 101 yX1_liftCall, Cond.methodLink RL 35 yX6_disconnect, Cond.instanceMethod yX6_disconnect, Cond.selects RX6 yX6_disconnect yX6_disconnect, Cond.code yX6_disconnect cX6_disconnect 2 (some .int), Cond.methodLink RX6 118 yX6_disconnects, Cond.instanceMethod yX6_disconnects, Cond.selects RX6 yX6_disconnects yX6_disconnects, Cond.code yX6_disconnects cX6_disconnects 4 (some .int), Cond.methodLink RL 36 yX5_takeOut, Cond.instanceMethod yX5_takeOut, Cond.selects RX5 yX5_takeOut yX5_takeOut]
def wsL_law_r17 : List Cond := [Cond.code yX5_takeOut cX5_takeOut 2 (some .int), Cond.methodLink RX5 84 yX3_retire, Cond.instanceMethod yX3_retire, Cond.selects RX3 yX3_retire yX3_retire, Cond.code yX3_retire cX3_retire 4 (some .int), Cond.fieldLink RX3 61 "ClosExchange$Network" "service" "I", Cond.fieldLink RX3 68 "ClosExchange$Network" "vias" "LClosExchange$Row;", Cond.methodLink RX3 58 yX1_isMiddle, Cond.instanceMethod yX1_isMiddle, Cond.selects RX1 yX1_isMiddle yX1_isMiddle, Cond.code yX1_isMiddle cX1_isMiddle 2 (some .boolean), Cond.methodLink RX3 74 yX3_reroute, Cond.instanceMethod yX3_reroute, Cond.selects RX3 yX3_reroute yX3_reroute, Cond.code yX3_reroute cX3_reroute 6 (some .int), Cond.fieldLink RX3 116 "ClosExchange$Network" "dropped" "I", Cond.methodLink RX3 110 yX1_firstLifted, Cond.instanceMethod yX1_firstLifted, Cond.selects RX1 yX1_firstLifted yX1_firstLifted, Cond.code yX1_firstLifted cX1_firstLifted 3 (some .int), Cond.methodLink RX1 85 yX1_isInletBusy, Cond.methodLink RL 39 yX6_takeOut, Cond.instanceMethod yX6_takeOut, Cond.selects RX6 yX6_takeOut yX6_takeOut]
def wsL_law_r18 : List Cond := [Cond.code yX6_takeOut cX6_takeOut 2 (some .int), Cond.methodLink RX6 121 yX6_takesOut, Cond.instanceMethod yX6_takesOut, Cond.selects RX6 yX6_takesOut yX6_takesOut, Cond.code yX6_takesOut cX6_takesOut 5 (some .int), Cond.methodLink RX6 87 yX6_isMiddle, Cond.instanceMethod yX6_isMiddle, Cond.selects RX6 yX6_isMiddle yX6_isMiddle, Cond.code yX6_isMiddle cX6_isMiddle 3 (some .boolean), Cond.methodLink RX6 90 yX6_nextOff, Cond.instanceMethod yX6_nextOff, Cond.selects RX6 yX6_nextOff yX6_nextOff, Cond.code yX6_nextOff cX6_nextOff 5 (some .int), Cond.methodLink RL 40 yX5_putBack, Cond.instanceMethod yX5_putBack, Cond.selects RX5 yX5_putBack yX5_putBack, Cond.code yX5_putBack cX5_putBack 2 (some .int), Cond.methodLink RX5 87 yX3_revive, Cond.instanceMethod yX3_revive, Cond.selects RX3 yX3_revive yX3_revive, Cond.code yX3_revive cX3_revive 3 (some .int), Cond.methodLink RX3 78 yJ6_bitCount_0f7a4, Cond.static yJ6_bitCount_0f7a4, Cond.initialized RJ6]
def wsL_law_r19 : List Cond := [Cond.code yJ6_bitCount_0f7a4 cJ6_bitCount_0f7a4 1 (some .int), Cond.constant RJ6 265 (1431655765), Cond.constant RJ6 266 (858993459), Cond.constant RJ6 267 (252645135), Cond.methodLink RL 43 yX6_putBack, Cond.instanceMethod yX6_putBack, Cond.selects RX6 yX6_putBack yX6_putBack, Cond.code yX6_putBack cX6_putBack 2 (some .int), Cond.methodLink RX6 124 yX6_putsBack, Cond.instanceMethod yX6_putsBack, Cond.selects RX6 yX6_putsBack yX6_putsBack, Cond.code yX6_putsBack cX6_putsBack 3 (some .int), Cond.methodLink RX6 93 yX6_bits, Cond.static yX6_bits, Cond.code yX6_bits cX6_bits 3 (some .int), Cond.methodLink RL 44 yX5_pack, Cond.instanceMethod yX5_pack, Cond.selects RX5 yX5_pack yX5_pack, Cond.code yX5_pack cX5_pack 1 (some .int), Cond.methodLink RX5 90 yX3_repack, Cond.instanceMethod yX3_repack, Cond.selects RX3 yX3_repack yX3_repack, Cond.code yX3_repack cX3_repack 5 (some .int), Cond.methodLink RX3 83 yX1_countCalls]
def wsL_law_r20 : List Cond := [Cond.methodLink RX3 90 yX1_fullestBoard, Cond.instanceMethod yX1_fullestBoard, Cond.selects RX1 yX1_fullestBoard yX1_fullestBoard, Cond.code yX1_fullestBoard cX1_fullestBoard 6 (some .int), Cond.methodLink RX1 92 Lib.Math.max.name, Cond.methodLink RX1 89 yX1_isOutletBusy, Cond.methodLink RX3 93 yX3_lowestBits, Cond.static yX3_lowestBits, Cond.code yX3_lowestBits cX3_lowestBits 5 (some .int), Cond.methodLink RX3 97 yX4_copyFrom, Cond.methodLink RX3 101 yX3_countChanged, Cond.instanceMethod yX3_countChanged, Cond.selects RX3 yX3_countChanged yX3_countChanged, Cond.code yX3_countChanged cX3_countChanged 4 (some .int), Cond.methodLink RL 48 yX6_pack, Cond.instanceMethod yX6_pack, Cond.selects RX6 yX6_pack yX6_pack, Cond.code yX6_pack cX6_pack 1 (some .int), Cond.methodLink RX6 127 yX6_packs, Cond.instanceMethod yX6_packs, Cond.selects RX6 yX6_packs yX6_packs, Cond.code yX6_packs cX6_packs 8 (some .int), Cond.methodLink RX6 99 yX6_least, Cond.instanceMethod yX6_least]
def wsL_law_r21 : List Cond := [Cond.selects RX6 yX6_least yX6_least, Cond.code yX6_least cX6_least 8 (some .int), Cond.methodLink RL 49 yX5_type, Cond.instanceMethod yX5_type, Cond.selects RX5 yX5_type yX5_type, Cond.code yX5_type cX5_type 2 (some .int), Cond.methodLink RX5 94 yX2_append, Cond.instanceMethod yX2_append, Cond.selects RX2 yX2_append yX2_append, Cond.code yX2_append cX2_append 2 (some .int), Cond.fieldLink RX2 20 "ClosExchange$OrderText" "length" "I", Cond.methodLink RX2 24 yX4_set, Cond.methodLink RL 53 yX6_type, Cond.instanceMethod yX6_type, Cond.selects RX6 yX6_type yX6_type, Cond.code yX6_type cX6_type 2 (some .int), Cond.fieldLink RX6 130 "ClosExchangeModel" "typed" "I", Cond.methodLink RL 54 yX5_clearText, Cond.instanceMethod yX5_clearText, Cond.selects RX5 yX5_clearText yX5_clearText, Cond.code yX5_clearText cX5_clearText 2 (some .int), Cond.fieldLink RX5 97 "ClosExchange$OrderText" "length" "I", Cond.methodLink RL 57 yX6_clearText, Cond.instanceMethod yX6_clearText]
def wsL_law_r22 : List Cond := [Cond.selects RX6 yX6_clearText yX6_clearText, Cond.code yX6_clearText cX6_clearText 2 (some .int), Cond.methodLink RL 58 yX5_perform, Cond.instanceMethod yX5_perform, Cond.selects RX5 yX5_perform yX5_perform, Cond.code yX5_perform cX5_perform 4 (some .int), Cond.methodLink RX5 100 yX2_findFault, Cond.instanceMethod yX2_findFault, Cond.selects RX2 yX2_findFault yX2_findFault, Cond.code yX2_findFault cX2_findFault 2 (some .int), Cond.fieldLink RX2 28 "ClosExchange$OrderText" "place" "I", Cond.methodLink RX2 31 yX2_rewind, Cond.instanceMethod yX2_rewind, Cond.selects RX2 yX2_rewind yX2_rewind, Cond.code yX2_rewind cX2_rewind 1 none, Cond.methodLink RX2 34 yX2_readOrder, Cond.instanceMethod yX2_readOrder, Cond.selects RX2 yX2_readOrder yX2_readOrder, Cond.code yX2_readOrder cX2_readOrder 1 (some .boolean), Cond.fieldLink RX2 46 "ClosExchange$OrderText" "kind" "I", Cond.fieldLink RX2 53 "ClosExchange$OrderText" "first" "I", Cond.fieldLink RX2 56 "ClosExchange$OrderText" "second" "I", Cond.methodLink RX2 42 yX2_sign, Cond.instanceMethod yX2_sign]
def wsL_law_r23 : List Cond := [Cond.selects RX2 yX2_sign yX2_sign, Cond.code yX2_sign cX2_sign 1 (some .int), Cond.methodLink RX2 59 yX4_get, Cond.methodLink RX2 49 yX2_readNumber, Cond.instanceMethod yX2_readNumber, Cond.selects RX2 yX2_readNumber yX2_readNumber, Cond.code yX2_readNumber cX2_readNumber 6 (some .int), Cond.methodLink RX2 62 Lib.Math.max.name, Cond.methodLink RX2 38 yX2_skip, Cond.instanceMethod yX2_skip, Cond.selects RX2 yX2_skip yX2_skip, Cond.code yX2_skip cX2_skip 2 (some .boolean), Cond.methodLink RX5 104 yX2_rewind, Cond.methodLink RX5 107 yX2_readOrder, Cond.methodLink RX5 111 yX5_obey, Cond.instanceMethod yX5_obey, Cond.selects RX5 yX5_obey yX5_obey, Cond.code yX5_obey cX5_obey 1 (some .int), Cond.fieldLink RX5 219 "ClosExchange$OrderText" "kind" "I", Cond.fieldLink RX5 222 "ClosExchange$OrderText" "first" "I", Cond.fieldLink RX5 225 "ClosExchange$OrderText" "second" "I", Cond.methodLink RX5 114 yX2_skip, Cond.methodLink RL 61 yX6_perform, Cond.instanceMethod yX6_perform]
def wsL_law_r24 : List Cond := [Cond.selects RX6 yX6_perform yX6_perform, Cond.code yX6_perform cX6_perform 5 (some .int), Cond.fieldLink RX6 133 "ClosExchangeModel" "at" "I", Cond.methodLink RX6 163 yX6_fault, Cond.instanceMethod yX6_fault, Cond.selects RX6 yX6_fault yX6_fault, Cond.code yX6_fault cX6_fault 1 (some .int), Cond.methodLink RX6 159 yX6_reads, Cond.instanceMethod yX6_reads, Cond.selects RX6 yX6_reads yX6_reads, Cond.code yX6_reads cX6_reads 1 (some .boolean), Cond.fieldLink RX6 143 "ClosExchangeModel" "order" "I", Cond.fieldLink RX6 150 "ClosExchangeModel" "first" "I", Cond.fieldLink RX6 153 "ClosExchangeModel" "second" "I", Cond.methodLink RX6 139 yX6_takes, Cond.instanceMethod yX6_takes, Cond.selects RX6 yX6_takes yX6_takes, Cond.code yX6_takes cX6_takes 3 (some .boolean), Cond.methodLink RX6 136 yX6_isHere, Cond.instanceMethod yX6_isHere, Cond.selects RX6 yX6_isHere yX6_isHere, Cond.code yX6_isHere cX6_isHere 3 (some .boolean), Cond.methodLink RX6 146 yX6_number, Cond.instanceMethod yX6_number]
def wsL_law_r25 : List Cond := [Cond.selects RX6 yX6_number yX6_number, Cond.code yX6_number cX6_number 2 (some .int), Cond.methodLink RX6 156 yX6_digit, Cond.instanceMethod yX6_digit, Cond.selects RX6 yX6_digit yX6_digit, Cond.code yX6_digit cX6_digit 1 (some .int), Cond.methodLink RX6 166 yX6_carries, Cond.instanceMethod yX6_carries, Cond.selects RX6 yX6_carries yX6_carries, Cond.code yX6_carries cX6_carries 1 (some .int), Cond.methodLink RL 62 yX5_undo, Cond.instanceMethod yX5_undo, Cond.selects RX5 yX5_undo yX5_undo, Cond.code yX5_undo cX5_undo 1 (some .int), Cond.methodLink RX5 118 yX0_takeBack, Cond.instanceMethod yX0_takeBack, Cond.selects RX0 yX0_takeBack yX0_takeBack, Cond.code yX0_takeBack cX0_takeBack 3 (some .int), Cond.methodLink RL 65 yX6_undo, Cond.instanceMethod yX6_undo, Cond.selects RX6 yX6_undo yX6_undo, Cond.code yX6_undo cX6_undo 1 (some .int), Cond.methodLink RL 66 yX5_keep, Cond.instanceMethod yX5_keep]
def wsL_law_r26 : List Cond := [Cond.selects RX5 yX5_keep yX5_keep, Cond.code yX5_keep cX5_keep 1 (some .int), Cond.methodLink RX5 121 yX1_countCalls, Cond.methodLink RL 69 yX6_keep, Cond.instanceMethod yX6_keep, Cond.selects RX6 yX6_keep yX6_keep, Cond.code yX6_keep cX6_keep 1 (some .int), Cond.fieldLink RX6 169 "ClosExchangeModel" "isKept" "Z", Cond.methodLink RL 70 yX5_restore, Cond.instanceMethod yX5_restore, Cond.selects RX5 yX5_restore yX5_restore, Cond.code yX5_restore cX5_restore 1 (some .int), Cond.methodLink RL 73 yX6_restore, Cond.instanceMethod yX6_restore, Cond.selects RX6 yX6_restore yX6_restore, Cond.code yX6_restore cX6_restore 1 (some .int), Cond.methodLink RL 74 yX5_callOfInlet, Cond.instanceMethod yX5_callOfInlet, Cond.selects RX5 yX5_callOfInlet yX5_callOfInlet, Cond.code yX5_callOfInlet cX5_callOfInlet 2 (some .int), Cond.fieldLink RX5 127 "ClosExchange$Network" "numbers" "LClosExchange$Row;", Cond.methodLink RX5 124 yX1_isLine, Cond.methodLink RX5 131 yX4_get, Cond.methodLink RL 77 yX6_callOfInlet]
def wsL_law_r27 : List Cond := [Cond.instanceMethod yX6_callOfInlet, Cond.selects RX6 yX6_callOfInlet yX6_callOfInlet, Cond.code yX6_callOfInlet cX6_callOfInlet 2 (some .int), Cond.methodLink RL 78 yX5_callOfOutlet, Cond.instanceMethod yX5_callOfOutlet, Cond.selects RX5 yX5_callOfOutlet yX5_callOfOutlet, Cond.code yX5_callOfOutlet cX5_callOfOutlet 2 (some .int), Cond.fieldLink RX5 136 "ClosExchange$Network" "inlets" "LClosExchange$Row;", Cond.methodLink RL 81 yX6_callOfOutlet, Cond.instanceMethod yX6_callOfOutlet, Cond.selects RX6 yX6_callOfOutlet yX6_callOfOutlet, Cond.code yX6_callOfOutlet cX6_callOfOutlet 3 (some .int), Cond.methodLink RL 82 yX5_inletOf, Cond.instanceMethod yX5_inletOf, Cond.selects RX5 yX5_inletOf yX5_inletOf, Cond.code yX5_inletOf cX5_inletOf 2 (some .int), Cond.methodLink RX5 139 yX1_findInlet, Cond.instanceMethod yX1_findInlet, Cond.selects RX1 yX1_findInlet yX1_findInlet, Cond.code yX1_findInlet cX1_findInlet 3 (some .int), Cond.methodLink RL 85 yX6_inletOf, Cond.instanceMethod yX6_inletOf, Cond.selects RX6 yX6_inletOf yX6_inletOf, Cond.code yX6_inletOf cX6_inletOf 3 (some .int)]
def wsL_law_r28 : List Cond := [Cond.methodLink RL 86 yX5_outletOf, Cond.instanceMethod yX5_outletOf, Cond.selects RX5 yX5_outletOf yX5_outletOf, Cond.code yX5_outletOf cX5_outletOf 3 (some .int), Cond.fieldLink RX5 142 "ClosExchange$Network" "outlets" "LClosExchange$Row;", Cond.methodLink RL 89 yX6_outletOf, Cond.instanceMethod yX6_outletOf, Cond.selects RX6 yX6_outletOf yX6_outletOf, Cond.code yX6_outletOf cX6_outletOf 3 (some .int), Cond.methodLink RX6 173 yX6_inletOf, Cond.methodLink RL 90 yX5_middleOf, Cond.instanceMethod yX5_middleOf, Cond.selects RX5 yX5_middleOf yX5_middleOf, Cond.code yX5_middleOf cX5_middleOf 3 (some .int), Cond.fieldLink RX5 145 "ClosExchange$Network" "vias" "LClosExchange$Row;", Cond.methodLink RL 93 yX6_middleOf, Cond.instanceMethod yX6_middleOf, Cond.selects RX6 yX6_middleOf yX6_middleOf, Cond.code yX6_middleOf cX6_middleOf 3 (some .int), Cond.methodLink RL 94 yX5_onFirstLink, Cond.instanceMethod yX5_onFirstLink, Cond.selects RX5 yX5_onFirstLink yX5_onFirstLink, Cond.code yX5_onFirstLink cX5_onFirstLink 3 (some .int), Cond.fieldLink RX5 154 "ClosExchange$Network" "firstLinks" "LClosExchange$Row;"]
def wsL_law_r29 : List Cond := [Cond.methodLink RX5 148 yX1_isBoard, Cond.instanceMethod yX1_isBoard, Cond.selects RX1 yX1_isBoard yX1_isBoard, Cond.code yX1_isBoard cX1_isBoard 2 (some .boolean), Cond.methodLink RX5 151 yX1_isMiddle, Cond.methodLink RX5 157 yX5_link, Cond.methodLink RL 97 yX6_onFirstLink, Cond.instanceMethod yX6_onFirstLink, Cond.selects RX6 yX6_onFirstLink yX6_onFirstLink, Cond.code yX6_onFirstLink cX6_onFirstLink 4 (some .int), Cond.methodLink RX6 176 yX6_isBoard, Cond.instanceMethod yX6_isBoard, Cond.selects RX6 yX6_isBoard yX6_isBoard, Cond.code yX6_isBoard cX6_isBoard 2 (some .boolean), Cond.methodLink RL 98 yX5_onLastLink, Cond.instanceMethod yX5_onLastLink, Cond.selects RX5 yX5_onLastLink yX5_onLastLink, Cond.code yX5_onLastLink cX5_onLastLink 3 (some .int), Cond.fieldLink RX5 161 "ClosExchange$Network" "lastLinks" "LClosExchange$Row;", Cond.methodLink RL 101 yX6_onLastLink, Cond.instanceMethod yX6_onLastLink, Cond.selects RX6 yX6_onLastLink yX6_onLastLink, Cond.code yX6_onLastLink cX6_onLastLink 4 (some .int), Cond.methodLink RL 102 yX5_load]
def wsL_law_r30 : List Cond := [Cond.instanceMethod yX5_load, Cond.selects RX5 yX5_load yX5_load, Cond.code yX5_load cX5_load 2 (some .int), Cond.methodLink RX5 164 yX1_loadOf, Cond.methodLink RL 105 yX6_load, Cond.instanceMethod yX6_load, Cond.selects RX6 yX6_load yX6_load, Cond.code yX6_load cX6_load 2 (some .int), Cond.methodLink RL 106 yX5_freeForFirst, Cond.instanceMethod yX5_freeForFirst, Cond.selects RX5 yX5_freeForFirst yX5_freeForFirst, Cond.code yX5_freeForFirst cX5_freeForFirst 2 (some .int), Cond.methodLink RX5 167 yX1_freeOnLinks, Cond.methodLink RL 109 yX6_freeForFirst, Cond.instanceMethod yX6_freeForFirst, Cond.selects RX6 yX6_freeForFirst yX6_freeForFirst, Cond.code yX6_freeForFirst cX6_freeForFirst 2 (some .int), Cond.methodLink RL 110 yX5_freeForLast, Cond.instanceMethod yX5_freeForLast, Cond.selects RX5 yX5_freeForLast yX5_freeForLast, Cond.code yX5_freeForLast cX5_freeForLast 2 (some .int), Cond.methodLink RL 113 yX6_freeForLast, Cond.instanceMethod yX6_freeForLast, Cond.selects RX6 yX6_freeForLast yX6_freeForLast]
def wsL_law_r31 : List Cond := [Cond.code yX6_freeForLast cX6_freeForLast 2 (some .int), Cond.methodLink RL 114 yX5_inService, Cond.instanceMethod yX5_inService, Cond.selects RX5 yX5_inService yX5_inService, Cond.code yX5_inService cX5_inService 1 (some .int), Cond.fieldLink RX5 171 "ClosExchange$Network" "service" "I", Cond.methodLink RL 117 yX6_inService, Cond.instanceMethod yX6_inService, Cond.selects RX6 yX6_inService yX6_inService, Cond.code yX6_inService cX6_inService 1 (some .int), Cond.methodLink RL 118 yX5_total, Cond.instanceMethod yX5_total, Cond.selects RX5 yX5_total yX5_total, Cond.code yX5_total cX5_total 2 (some .int), Cond.fieldLink RX5 174 "ClosExchange$Network" "boards" "I", Cond.fieldLink RX5 177 "ClosExchange$Network" "lines" "I", Cond.fieldLink RX5 180 "ClosExchange$Network" "middles" "I", Cond.fieldLink RX5 183 "ClosExchange$Network" "connected" "I", Cond.fieldLink RX5 186 "ClosExchange$Network" "ended" "I", Cond.fieldLink RX5 189 "ClosExchange$Network" "dropped" "I", Cond.fieldLink RX5 192 "ClosExchange$Network" "moved" "I", Cond.fieldLink RX5 195 "ClosExchange$History" "count" "I", Cond.methodLink RL 121 yX6_total, Cond.instanceMethod yX6_total]
def wsL_law_r32 : List Cond := [Cond.selects RX6 yX6_total yX6_total, Cond.code yX6_total cX6_total 2 (some .int), Cond.methodLink RL 122 yX5_wouldMove, Cond.instanceMethod yX5_wouldMove, Cond.selects RX5 yX5_wouldMove yX5_wouldMove, Cond.code yX5_wouldMove cX5_wouldMove 4 (some .int), Cond.fieldLink RX5 201 "ClosExchange$Router" "chainLength" "I", Cond.methodLink RX5 198 yX3_tryCall, Cond.methodLink RL 125 yX6_wouldMove, Cond.instanceMethod yX6_wouldMove, Cond.selects RX6 yX6_wouldMove yX6_wouldMove, Cond.code yX6_wouldMove cX6_wouldMove 4 (some .int), Cond.methodLink RL 126 yX5_chainCall, Cond.instanceMethod yX5_chainCall, Cond.selects RX5 yX5_chainCall yX5_chainCall, Cond.code yX5_chainCall cX5_chainCall 5 (some .int), Cond.fieldLink RX5 204 "ClosExchange$Router" "chain" "LClosExchange$Row;", Cond.methodLink RL 129 yX6_chainCall, Cond.instanceMethod yX6_chainCall, Cond.selects RX6 yX6_chainCall yX6_chainCall, Cond.code yX6_chainCall cX6_chainCall 5 (some .int), Cond.methodLink RL 130 yX5_reason, Cond.instanceMethod yX5_reason, Cond.selects RX5 yX5_reason yX5_reason]
def wsL_law_r33 : List Cond := [Cond.code yX5_reason cX5_reason 5 (some .int), Cond.methodLink RX5 207 yX1_isInletBusy, Cond.methodLink RX5 210 yX1_isOutletBusy, Cond.methodLink RX5 213 yX1_boardOf, Cond.methodLink RL 133 yX6_reason, Cond.instanceMethod yX6_reason, Cond.selects RX6 yX6_reason yX6_reason, Cond.code yX6_reason cX6_reason 5 (some .int), Cond.methodLink RL 134 yX5_leastMiddles, Cond.instanceMethod yX5_leastMiddles, Cond.selects RX5 yX5_leastMiddles yX5_leastMiddles, Cond.code yX5_leastMiddles cX5_leastMiddles 1 (some .int), Cond.methodLink RX5 216 yX1_fullestBoard, Cond.methodLink RL 137 yX6_leastMiddles, Cond.instanceMethod yX6_leastMiddles, Cond.selects RX6 yX6_leastMiddles yX6_leastMiddles, Cond.code yX6_leastMiddles cX6_leastMiddles 1 (some .int), Cond.methodLink RL 138 yX5_wouldDrop, Cond.instanceMethod yX5_wouldDrop, Cond.selects RX5 yX5_wouldDrop yX5_wouldDrop, Cond.code yX5_wouldDrop cX5_wouldDrop 2 (some .int), Cond.methodLink RL 141 yX6_wouldDrop, Cond.instanceMethod yX6_wouldDrop, Cond.selects RX6 yX6_wouldDrop yX6_wouldDrop]
def wsL_law_r34 : List Cond := [Cond.code yX6_wouldDrop cX6_wouldDrop 2 (some .int), Cond.methodLink RL 142 yX5_reachable, Cond.instanceMethod yX5_reachable, Cond.selects RX5 yX5_reachable yX5_reachable, Cond.code yX5_reachable cX5_reachable 6 (some .int), Cond.methodLink RL 145 yX6_reachable, Cond.instanceMethod yX6_reachable, Cond.selects RX6 yX6_reachable yX6_reachable, Cond.code yX6_reachable cX6_reachable 6 (some .int)]
def wsL_law : List Cond := (wsL_law_r1 ++ (wsL_law_r2 ++ (wsL_law_r3 ++ (wsL_law_r4 ++ (wsL_law_r5 ++ (wsL_law_r6 ++ (wsL_law_r7 ++ (wsL_law_r8 ++ (wsL_law_r9 ++ (wsL_law_r10 ++ (wsL_law_r11 ++ (wsL_law_r12 ++ (wsL_law_r13 ++ (wsL_law_r14 ++ (wsL_law_r15 ++ (wsL_law_r16 ++ (wsL_law_r17 ++ (wsL_law_r18 ++ (wsL_law_r19 ++ (wsL_law_r20 ++ (wsL_law_r21 ++ (wsL_law_r22 ++ (wsL_law_r23 ++ (wsL_law_r24 ++ (wsL_law_r25 ++ (wsL_law_r26 ++ (wsL_law_r27 ++ (wsL_law_r28 ++ (wsL_law_r29 ++ (wsL_law_r30 ++ (wsL_law_r31 ++ (wsL_law_r32 ++ (wsL_law_r33 ++ wsL_law_r34))))))))))))))))))))))))))))))))) ++ wsX50 ++ wsX60 ++ wsX10 ++ wsX30 ++ wsX00 ++ wsX20 ++ wsX40 ++ ([] : List Cond)
abbrev vwCl : List vw_C := [(RX0, TX0, 3), (RX1, TX1, 16), (RX2, TX2, 6), (RX3, TX3, 5), (RX4, TX4, 1), (RX5, TX5, 8), (RX6, TX6, 12)]
end
section
set_option maxRecDepth 20000 in
theorem ggX4_init_J7_fill_53178 : GoodIn wsX4_init wsJ7_fill_53178 := goodIn_r _ [13] (by decide +kernel) (by decide +kernel)
set_option maxRecDepth 20000 in
theorem gX4_init_J7_fill_53178 : GoodIn wsX4_init (va_wsS RX4 21 yJ7_fill_53178 wsJ7_fill_53178) := goodIn_app (goodIn_of _ (by decide +kernel)) ggX4_init_J7_fill_53178
theorem dX4_init_0 : decode cX4_init 0 = .ok (.aload_n 0, 1) := by decide +kernel
theorem dX4_init_1 : decode cX4_init 1 = .ok (.invokespecial 3, 3) := by decide +kernel
theorem dX4_init_4 : decode cX4_init 4 = .ok (.aload_n 0, 1) := by decide +kernel
theorem dX4_init_5 : decode cX4_init 5 = .ok (.iload_n 1, 1) := by decide +kernel
theorem dX4_init_6 : decode cX4_init 6 = .ok (.iconst 0, 1) := by decide +kernel
theorem dX4_init_7 : decode cX4_init 7 = .ok (.invokestatic 9, 3) := by decide +kernel
theorem dX4_init_10 : decode cX4_init 10 = .ok (.newarray .int, 2) := by decide +kernel
theorem dX4_init_12 : decode cX4_init 12 = .ok (.putfield 15, 3) := by decide +kernel
theorem dX4_init_15 : decode cX4_init 15 = .ok (.aload_n 0, 1) := by decide +kernel
theorem dX4_init_16 : decode cX4_init 16 = .ok (.getfield 15, 3) := by decide +kernel
theorem dX4_init_19 : decode cX4_init 19 = .ok (.bipush (-6), 2) := by decide +kernel
theorem dX4_init_21 : decode cX4_init 21 = .ok (.invokestatic 21, 3) := by decide +kernel
theorem dX4_init_24 : decode cX4_init 24 = .ok (.return_, 1) := by decide +kernel
theorem dX4_get_0 : decode cX4_get 0 = .ok (.iload_n 1, 1) := by decide +kernel
theorem dX4_get_1 : decode cX4_get 1 = .ok (.ifCond .lt 21, 3) := by decide +kernel
theorem dX4_get_4 : decode cX4_get 4 = .ok (.iload_n 1, 1) := by decide +kernel
theorem dX4_get_5 : decode cX4_get 5 = .ok (.aload_n 0, 1) := by decide +kernel
theorem dX4_get_6 : decode cX4_get 6 = .ok (.getfield 15, 3) := by decide +kernel
theorem dX4_get_9 : decode cX4_get 9 = .ok (.arraylength, 1) := by decide +kernel
theorem dX4_get_10 : decode cX4_get 10 = .ok (.if_icmp .ge 12, 3) := by decide +kernel
theorem dX4_get_13 : decode cX4_get 13 = .ok (.aload_n 0, 1) := by decide +kernel
theorem dX4_get_14 : decode cX4_get 14 = .ok (.getfield 15, 3) := by decide +kernel
theorem dX4_get_17 : decode cX4_get 17 = .ok (.iload_n 1, 1) := by decide +kernel
theorem dX4_get_18 : decode cX4_get 18 = .ok (.iaload, 1) := by decide +kernel
theorem dX4_get_19 : decode cX4_get 19 = .ok (.goto 5, 3) := by decide +kernel
theorem dX4_get_22 : decode cX4_get 22 = .ok (.bipush (-6), 2) := by decide +kernel
theorem dX4_get_24 : decode cX4_get 24 = .ok (.ireturn, 1) := by decide +kernel
theorem dX4_set_0 : decode cX4_set 0 = .ok (.iload_n 1, 1) := by decide +kernel
theorem dX4_set_1 : decode cX4_set 1 = .ok (.ifCond .lt 19, 3) := by decide +kernel
theorem dX4_set_4 : decode cX4_set 4 = .ok (.iload_n 1, 1) := by decide +kernel
theorem dX4_set_5 : decode cX4_set 5 = .ok (.aload_n 0, 1) := by decide +kernel
theorem dX4_set_6 : decode cX4_set 6 = .ok (.getfield 15, 3) := by decide +kernel
theorem dX4_set_9 : decode cX4_set 9 = .ok (.arraylength, 1) := by decide +kernel
theorem dX4_set_10 : decode cX4_set 10 = .ok (.if_icmp .ge 10, 3) := by decide +kernel
theorem dX4_set_13 : decode cX4_set 13 = .ok (.aload_n 0, 1) := by decide +kernel
theorem dX4_set_14 : decode cX4_set 14 = .ok (.getfield 15, 3) := by decide +kernel
theorem dX4_set_17 : decode cX4_set 17 = .ok (.iload_n 1, 1) := by decide +kernel
theorem dX4_set_18 : decode cX4_set 18 = .ok (.iload_n 2, 1) := by decide +kernel
theorem dX4_set_19 : decode cX4_set 19 = .ok (.iastore, 1) := by decide +kernel
theorem dX4_set_20 : decode cX4_set 20 = .ok (.return_, 1) := by decide +kernel
set_option maxRecDepth 20000 in
theorem ggX4_empty_J7_fill_53178 : GoodIn wsX4_empty wsJ7_fill_53178 := goodIn_r _ [5] (by decide +kernel) (by decide +kernel)
set_option maxRecDepth 20000 in
theorem gX4_empty_J7_fill_53178 : GoodIn wsX4_empty (va_wsS RX4 21 yJ7_fill_53178 wsJ7_fill_53178) := goodIn_app (goodIn_of _ (by decide +kernel)) ggX4_empty_J7_fill_53178
theorem dX4_empty_0 : decode cX4_empty 0 = .ok (.aload_n 0, 1) := by decide +kernel
theorem dX4_empty_1 : decode cX4_empty 1 = .ok (.getfield 15, 3) := by decide +kernel
theorem dX4_empty_4 : decode cX4_empty 4 = .ok (.bipush (-6), 2) := by decide +kernel
theorem dX4_empty_6 : decode cX4_empty 6 = .ok (.invokestatic 21, 3) := by decide +kernel
theorem dX4_empty_9 : decode cX4_empty 9 = .ok (.return_, 1) := by decide +kernel
theorem dX4_copyFrom_0 : decode cX4_copyFrom 0 = .ok (.aload_n 1, 1) := by decide +kernel
theorem dX4_copyFrom_1 : decode cX4_copyFrom 1 = .ok (.getfield 15, 3) := by decide +kernel
theorem dX4_copyFrom_4 : decode cX4_copyFrom 4 = .ok (.iconst 0, 1) := by decide +kernel
theorem dX4_copyFrom_5 : decode cX4_copyFrom 5 = .ok (.aload_n 0, 1) := by decide +kernel
theorem dX4_copyFrom_6 : decode cX4_copyFrom 6 = .ok (.getfield 15, 3) := by decide +kernel
theorem dX4_copyFrom_9 : decode cX4_copyFrom 9 = .ok (.iconst 0, 1) := by decide +kernel
theorem dX4_copyFrom_10 : decode cX4_copyFrom 10 = .ok (.aload_n 0, 1) := by decide +kernel
theorem dX4_copyFrom_11 : decode cX4_copyFrom 11 = .ok (.getfield 15, 3) := by decide +kernel
theorem dX4_copyFrom_14 : decode cX4_copyFrom 14 = .ok (.arraylength, 1) := by decide +kernel
theorem dX4_copyFrom_15 : decode cX4_copyFrom 15 = .ok (.aload_n 1, 1) := by decide +kernel
theorem dX4_copyFrom_16 : decode cX4_copyFrom 16 = .ok (.getfield 15, 3) := by decide +kernel
theorem dX4_copyFrom_19 : decode cX4_copyFrom 19 = .ok (.arraylength, 1) := by decide +kernel
theorem dX4_copyFrom_20 : decode cX4_copyFrom 20 = .ok (.invokestatic 27, 3) := by decide +kernel
theorem dX4_copyFrom_23 : decode cX4_copyFrom 23 = .ok (.invokestatic 30, 3) := by decide +kernel
theorem dX4_copyFrom_26 : decode cX4_copyFrom 26 = .ok (.return_, 1) := by decide +kernel
theorem dJ6_bitCount_0f7a4_0 : decode cJ6_bitCount_0f7a4 0 = .ok (.iload_n 0, 1) := by decide +kernel
theorem dJ6_bitCount_0f7a4_1 : decode cJ6_bitCount_0f7a4 1 = .ok (.iload_n 0, 1) := by decide +kernel
theorem dJ6_bitCount_0f7a4_2 : decode cJ6_bitCount_0f7a4 2 = .ok (.iconst 1, 1) := by decide +kernel
theorem dJ6_bitCount_0f7a4_3 : decode cJ6_bitCount_0f7a4 3 = .ok (.iushr, 1) := by decide +kernel
theorem dJ6_bitCount_0f7a4_4 : decode cJ6_bitCount_0f7a4 4 = .ok (.ldc_w 265, 3) := by decide +kernel
theorem dJ6_bitCount_0f7a4_7 : decode cJ6_bitCount_0f7a4 7 = .ok (.iand, 1) := by decide +kernel
theorem dJ6_bitCount_0f7a4_8 : decode cJ6_bitCount_0f7a4 8 = .ok (.isub, 1) := by decide +kernel
theorem dJ6_bitCount_0f7a4_9 : decode cJ6_bitCount_0f7a4 9 = .ok (.istore_n 0, 1) := by decide +kernel
theorem dJ6_bitCount_0f7a4_10 : decode cJ6_bitCount_0f7a4 10 = .ok (.iload_n 0, 1) := by decide +kernel
theorem dJ6_bitCount_0f7a4_11 : decode cJ6_bitCount_0f7a4 11 = .ok (.ldc_w 266, 3) := by decide +kernel
theorem dJ6_bitCount_0f7a4_14 : decode cJ6_bitCount_0f7a4 14 = .ok (.iand, 1) := by decide +kernel
theorem dJ6_bitCount_0f7a4_15 : decode cJ6_bitCount_0f7a4 15 = .ok (.iload_n 0, 1) := by decide +kernel
theorem dJ6_bitCount_0f7a4_16 : decode cJ6_bitCount_0f7a4 16 = .ok (.iconst 2, 1) := by decide +kernel
theorem dJ6_bitCount_0f7a4_17 : decode cJ6_bitCount_0f7a4 17 = .ok (.iushr, 1) := by decide +kernel
theorem dJ6_bitCount_0f7a4_18 : decode cJ6_bitCount_0f7a4 18 = .ok (.ldc_w 266, 3) := by decide +kernel
theorem dJ6_bitCount_0f7a4_21 : decode cJ6_bitCount_0f7a4 21 = .ok (.iand, 1) := by decide +kernel
theorem dJ6_bitCount_0f7a4_22 : decode cJ6_bitCount_0f7a4 22 = .ok (.iadd, 1) := by decide +kernel
theorem dJ6_bitCount_0f7a4_23 : decode cJ6_bitCount_0f7a4 23 = .ok (.istore_n 0, 1) := by decide +kernel
theorem dJ6_bitCount_0f7a4_24 : decode cJ6_bitCount_0f7a4 24 = .ok (.iload_n 0, 1) := by decide +kernel
theorem dJ6_bitCount_0f7a4_25 : decode cJ6_bitCount_0f7a4 25 = .ok (.iload_n 0, 1) := by decide +kernel
theorem dJ6_bitCount_0f7a4_26 : decode cJ6_bitCount_0f7a4 26 = .ok (.iconst 4, 1) := by decide +kernel
theorem dJ6_bitCount_0f7a4_27 : decode cJ6_bitCount_0f7a4 27 = .ok (.iushr, 1) := by decide +kernel
theorem dJ6_bitCount_0f7a4_28 : decode cJ6_bitCount_0f7a4 28 = .ok (.iadd, 1) := by decide +kernel
theorem dJ6_bitCount_0f7a4_29 : decode cJ6_bitCount_0f7a4 29 = .ok (.ldc_w 267, 3) := by decide +kernel
theorem dJ6_bitCount_0f7a4_32 : decode cJ6_bitCount_0f7a4 32 = .ok (.iand, 1) := by decide +kernel
theorem dJ6_bitCount_0f7a4_33 : decode cJ6_bitCount_0f7a4 33 = .ok (.istore_n 0, 1) := by decide +kernel
theorem dJ6_bitCount_0f7a4_34 : decode cJ6_bitCount_0f7a4 34 = .ok (.iload_n 0, 1) := by decide +kernel
theorem dJ6_bitCount_0f7a4_35 : decode cJ6_bitCount_0f7a4 35 = .ok (.iload_n 0, 1) := by decide +kernel
theorem dJ6_bitCount_0f7a4_36 : decode cJ6_bitCount_0f7a4 36 = .ok (.bipush 8, 2) := by decide +kernel
theorem dJ6_bitCount_0f7a4_38 : decode cJ6_bitCount_0f7a4 38 = .ok (.iushr, 1) := by decide +kernel
theorem dJ6_bitCount_0f7a4_39 : decode cJ6_bitCount_0f7a4 39 = .ok (.iadd, 1) := by decide +kernel
theorem dJ6_bitCount_0f7a4_40 : decode cJ6_bitCount_0f7a4 40 = .ok (.istore_n 0, 1) := by decide +kernel
theorem dJ6_bitCount_0f7a4_41 : decode cJ6_bitCount_0f7a4 41 = .ok (.iload_n 0, 1) := by decide +kernel
theorem dJ6_bitCount_0f7a4_42 : decode cJ6_bitCount_0f7a4 42 = .ok (.iload_n 0, 1) := by decide +kernel
theorem dJ6_bitCount_0f7a4_43 : decode cJ6_bitCount_0f7a4 43 = .ok (.bipush 16, 2) := by decide +kernel
theorem dJ6_bitCount_0f7a4_45 : decode cJ6_bitCount_0f7a4 45 = .ok (.iushr, 1) := by decide +kernel
theorem dJ6_bitCount_0f7a4_46 : decode cJ6_bitCount_0f7a4 46 = .ok (.iadd, 1) := by decide +kernel
theorem dJ6_bitCount_0f7a4_47 : decode cJ6_bitCount_0f7a4 47 = .ok (.istore_n 0, 1) := by decide +kernel
theorem dJ6_bitCount_0f7a4_48 : decode cJ6_bitCount_0f7a4 48 = .ok (.iload_n 0, 1) := by decide +kernel
theorem dJ6_bitCount_0f7a4_49 : decode cJ6_bitCount_0f7a4 49 = .ok (.bipush 63, 2) := by decide +kernel
theorem dJ6_bitCount_0f7a4_51 : decode cJ6_bitCount_0f7a4 51 = .ok (.iand, 1) := by decide +kernel
theorem dJ6_bitCount_0f7a4_52 : decode cJ6_bitCount_0f7a4 52 = .ok (.ireturn, 1) := by decide +kernel
theorem dJ9_max_7cf53_0 : decode cJ9_max_7cf53 0 = .ok (.iload_n 0, 1) := by decide +kernel
theorem dJ9_max_7cf53_1 : decode cJ9_max_7cf53 1 = .ok (.iload_n 1, 1) := by decide +kernel
theorem dJ9_max_7cf53_2 : decode cJ9_max_7cf53 2 = .ok (.if_icmp .lt 7, 3) := by decide +kernel
theorem dJ9_max_7cf53_5 : decode cJ9_max_7cf53 5 = .ok (.iload_n 0, 1) := by decide +kernel
theorem dJ9_max_7cf53_6 : decode cJ9_max_7cf53 6 = .ok (.goto 4, 3) := by decide +kernel
theorem dJ9_max_7cf53_9 : decode cJ9_max_7cf53 9 = .ok (.iload_n 1, 1) := by decide +kernel
theorem dJ9_max_7cf53_10 : decode cJ9_max_7cf53 10 = .ok (.ireturn, 1) := by decide +kernel
theorem dJ9_min_7cf53_0 : decode cJ9_min_7cf53 0 = .ok (.iload_n 0, 1) := by decide +kernel
theorem dJ9_min_7cf53_1 : decode cJ9_min_7cf53 1 = .ok (.iload_n 1, 1) := by decide +kernel
theorem dJ9_min_7cf53_2 : decode cJ9_min_7cf53 2 = .ok (.if_icmp .gt 7, 3) := by decide +kernel
theorem dJ9_min_7cf53_5 : decode cJ9_min_7cf53 5 = .ok (.iload_n 0, 1) := by decide +kernel
theorem dJ9_min_7cf53_6 : decode cJ9_min_7cf53 6 = .ok (.goto 4, 3) := by decide +kernel
theorem dJ9_min_7cf53_9 : decode cJ9_min_7cf53 9 = .ok (.iload_n 1, 1) := by decide +kernel
theorem dJ9_min_7cf53_10 : decode cJ9_min_7cf53 10 = .ok (.ireturn, 1) := by decide +kernel
theorem dJ7_fill_53178_0 : decode cJ7_fill_53178 0 = .ok (.iconst 0, 1) := by decide +kernel
theorem dJ7_fill_53178_1 : decode cJ7_fill_53178 1 = .ok (.istore_n 2, 1) := by decide +kernel
theorem dJ7_fill_53178_2 : decode cJ7_fill_53178 2 = .ok (.aload_n 0, 1) := by decide +kernel
theorem dJ7_fill_53178_3 : decode cJ7_fill_53178 3 = .ok (.arraylength, 1) := by decide +kernel
theorem dJ7_fill_53178_4 : decode cJ7_fill_53178 4 = .ok (.istore_n 3, 1) := by decide +kernel
theorem dJ7_fill_53178_5 : decode cJ7_fill_53178 5 = .ok (.iload_n 2, 1) := by decide +kernel
theorem dJ7_fill_53178_6 : decode cJ7_fill_53178 6 = .ok (.iload_n 3, 1) := by decide +kernel
theorem dJ7_fill_53178_7 : decode cJ7_fill_53178 7 = .ok (.if_icmp .ge 13, 3) := by decide +kernel
theorem dJ7_fill_53178_10 : decode cJ7_fill_53178 10 = .ok (.aload_n 0, 1) := by decide +kernel
theorem dJ7_fill_53178_11 : decode cJ7_fill_53178 11 = .ok (.iload_n 2, 1) := by decide +kernel
theorem dJ7_fill_53178_12 : decode cJ7_fill_53178 12 = .ok (.iload_n 1, 1) := by decide +kernel
theorem dJ7_fill_53178_13 : decode cJ7_fill_53178 13 = .ok (.iastore, 1) := by decide +kernel
theorem dJ7_fill_53178_14 : decode cJ7_fill_53178 14 = .ok (.iinc 2 1, 3) := by decide +kernel
theorem dJ7_fill_53178_17 : decode cJ7_fill_53178 17 = .ok (.goto (-12), 3) := by decide +kernel
theorem dJ7_fill_53178_20 : decode cJ7_fill_53178 20 = .ok (.return_, 1) := by decide +kernel
theorem dX5_within_0 : decode cX5_within 0 = .ok (.iload_n 0, 1) := by decide +kernel
theorem dX5_within_1 : decode cX5_within 1 = .ok (.iload_n 1, 1) := by decide +kernel
theorem dX5_within_2 : decode cX5_within 2 = .ok (.if_icmp .lt 12, 3) := by decide +kernel
theorem dX5_within_5 : decode cX5_within 5 = .ok (.iload_n 0, 1) := by decide +kernel
theorem dX5_within_6 : decode cX5_within 6 = .ok (.iload_n 2, 1) := by decide +kernel
theorem dX5_within_7 : decode cX5_within 7 = .ok (.if_icmp .gt 7, 3) := by decide +kernel
theorem dX5_within_10 : decode cX5_within 10 = .ok (.iconst 1, 1) := by decide +kernel
theorem dX5_within_11 : decode cX5_within 11 = .ok (.goto 4, 3) := by decide +kernel
theorem dX5_within_14 : decode cX5_within 14 = .ok (.iconst 0, 1) := by decide +kernel
theorem dX5_within_15 : decode cX5_within 15 = .ok (.ireturn, 1) := by decide +kernel
theorem dX5_hasBit_0 : decode cX5_hasBit 0 = .ok (.iload_n 0, 1) := by decide +kernel
theorem dX5_hasBit_1 : decode cX5_hasBit 1 = .ok (.iconst 1, 1) := by decide +kernel
theorem dX5_hasBit_2 : decode cX5_hasBit 2 = .ok (.iload_n 1, 1) := by decide +kernel
theorem dX5_hasBit_3 : decode cX5_hasBit 3 = .ok (.ishl, 1) := by decide +kernel
theorem dX5_hasBit_4 : decode cX5_hasBit 4 = .ok (.iand, 1) := by decide +kernel
theorem dX5_hasBit_5 : decode cX5_hasBit 5 = .ok (.ifCond .eq 7, 3) := by decide +kernel
theorem dX5_hasBit_8 : decode cX5_hasBit 8 = .ok (.iconst 1, 1) := by decide +kernel
theorem dX5_hasBit_9 : decode cX5_hasBit 9 = .ok (.goto 4, 3) := by decide +kernel
theorem dX5_hasBit_12 : decode cX5_hasBit 12 = .ok (.iconst 0, 1) := by decide +kernel
theorem dX5_hasBit_13 : decode cX5_hasBit 13 = .ok (.ireturn, 1) := by decide +kernel
theorem dX5_link_0 : decode cX5_link 0 = .ok (.iload_n 0, 1) := by decide +kernel
theorem dX5_link_1 : decode cX5_link 1 = .ok (.bipush 8, 2) := by decide +kernel
theorem dX5_link_3 : decode cX5_link 3 = .ok (.imul, 1) := by decide +kernel
theorem dX5_link_4 : decode cX5_link 4 = .ok (.iload_n 1, 1) := by decide +kernel
theorem dX5_link_5 : decode cX5_link 5 = .ok (.iadd, 1) := by decide +kernel
theorem dX5_link_6 : decode cX5_link 6 = .ok (.ireturn, 1) := by decide +kernel
end
section
set_option maxRecDepth 20000 in
theorem ggX1_init_X4_init : GoodIn wsX1_init wsX4_init := goodIn_r _ [19, 20, 2, 3, 21, 22, 23, 24, 25, 26, 27, 28, 29, 30, 47] (by decide +kernel) (by decide +kernel)
set_option maxRecDepth 20000 in
theorem gX1_init_X4_init : GoodIn wsX1_init (wsX4_init) := ggX1_init_X4_init
theorem dX1_init_0 : decode cX1_init 0 = .ok (.aload_n 0, 1) := by decide +kernel
theorem dX1_init_1 : decode cX1_init 1 = .ok (.invokespecial 3, 3) := by decide +kernel
theorem dX1_init_4 : decode cX1_init 4 = .ok (.aload_n 0, 1) := by decide +kernel
theorem dX1_init_5 : decode cX1_init 5 = .ok (.iconst 4, 1) := by decide +kernel
theorem dX1_init_6 : decode cX1_init 6 = .ok (.putfield 9, 3) := by decide +kernel
theorem dX1_init_9 : decode cX1_init 9 = .ok (.aload_n 0, 1) := by decide +kernel
theorem dX1_init_10 : decode cX1_init 10 = .ok (.iconst 3, 1) := by decide +kernel
theorem dX1_init_11 : decode cX1_init 11 = .ok (.putfield 15, 3) := by decide +kernel
theorem dX1_init_14 : decode cX1_init 14 = .ok (.aload_n 0, 1) := by decide +kernel
theorem dX1_init_15 : decode cX1_init 15 = .ok (.iconst 3, 1) := by decide +kernel
theorem dX1_init_16 : decode cX1_init 16 = .ok (.putfield 18, 3) := by decide +kernel
theorem dX1_init_19 : decode cX1_init 19 = .ok (.aload_n 0, 1) := by decide +kernel
theorem dX1_init_20 : decode cX1_init 20 = .ok (.bipush 7, 2) := by decide +kernel
theorem dX1_init_22 : decode cX1_init 22 = .ok (.putfield 21, 3) := by decide +kernel
theorem dX1_init_25 : decode cX1_init 25 = .ok (.aload_n 0, 1) := by decide +kernel
theorem dX1_init_26 : decode cX1_init 26 = .ok (.new 24, 3) := by decide +kernel
theorem dX1_init_29 : decode cX1_init 29 = .ok (.dup, 1) := by decide +kernel
theorem dX1_init_30 : decode cX1_init 30 = .ok (.bipush 48, 2) := by decide +kernel
theorem dX1_init_32 : decode cX1_init 32 = .ok (.invokespecial 26, 3) := by decide +kernel
theorem dX1_init_35 : decode cX1_init 35 = .ok (.putfield 29, 3) := by decide +kernel
theorem dX1_init_38 : decode cX1_init 38 = .ok (.aload_n 0, 1) := by decide +kernel
theorem dX1_init_39 : decode cX1_init 39 = .ok (.new 24, 3) := by decide +kernel
theorem dX1_init_42 : decode cX1_init 42 = .ok (.dup, 1) := by decide +kernel
theorem dX1_init_43 : decode cX1_init 43 = .ok (.bipush 48, 2) := by decide +kernel
theorem dX1_init_45 : decode cX1_init 45 = .ok (.invokespecial 26, 3) := by decide +kernel
theorem dX1_init_48 : decode cX1_init 48 = .ok (.putfield 33, 3) := by decide +kernel
theorem dX1_init_51 : decode cX1_init 51 = .ok (.aload_n 0, 1) := by decide +kernel
theorem dX1_init_52 : decode cX1_init 52 = .ok (.new 24, 3) := by decide +kernel
theorem dX1_init_55 : decode cX1_init 55 = .ok (.dup, 1) := by decide +kernel
theorem dX1_init_56 : decode cX1_init 56 = .ok (.bipush 48, 2) := by decide +kernel
theorem dX1_init_58 : decode cX1_init 58 = .ok (.invokespecial 26, 3) := by decide +kernel
theorem dX1_init_61 : decode cX1_init 61 = .ok (.putfield 36, 3) := by decide +kernel
theorem dX1_init_64 : decode cX1_init 64 = .ok (.aload_n 0, 1) := by decide +kernel
theorem dX1_init_65 : decode cX1_init 65 = .ok (.new 24, 3) := by decide +kernel
theorem dX1_init_68 : decode cX1_init 68 = .ok (.dup, 1) := by decide +kernel
theorem dX1_init_69 : decode cX1_init 69 = .ok (.bipush 48, 2) := by decide +kernel
theorem dX1_init_71 : decode cX1_init 71 = .ok (.invokespecial 26, 3) := by decide +kernel
theorem dX1_init_74 : decode cX1_init 74 = .ok (.putfield 39, 3) := by decide +kernel
theorem dX1_init_77 : decode cX1_init 77 = .ok (.aload_n 0, 1) := by decide +kernel
theorem dX1_init_78 : decode cX1_init 78 = .ok (.new 24, 3) := by decide +kernel
theorem dX1_init_81 : decode cX1_init 81 = .ok (.dup, 1) := by decide +kernel
theorem dX1_init_82 : decode cX1_init 82 = .ok (.bipush 64, 2) := by decide +kernel
theorem dX1_init_84 : decode cX1_init 84 = .ok (.invokespecial 26, 3) := by decide +kernel
theorem dX1_init_87 : decode cX1_init 87 = .ok (.putfield 42, 3) := by decide +kernel
theorem dX1_init_90 : decode cX1_init 90 = .ok (.aload_n 0, 1) := by decide +kernel
theorem dX1_init_91 : decode cX1_init 91 = .ok (.new 24, 3) := by decide +kernel
theorem dX1_init_94 : decode cX1_init 94 = .ok (.dup, 1) := by decide +kernel
theorem dX1_init_95 : decode cX1_init 95 = .ok (.bipush 64, 2) := by decide +kernel
theorem dX1_init_97 : decode cX1_init 97 = .ok (.invokespecial 26, 3) := by decide +kernel
theorem dX1_init_100 : decode cX1_init 100 = .ok (.putfield 45, 3) := by decide +kernel
theorem dX1_init_103 : decode cX1_init 103 = .ok (.return_, 1) := by decide +kernel
set_option maxRecDepth 20000 in
theorem ggX1_copyFrom_X4_copyFrom : GoodIn wsX1_copyFrom wsX4_copyFrom := goodIn_r _ [21, 22, 23, 24, 25, 26, 27, 28, 29, 30, 47] (by decide +kernel) (by decide +kernel)
set_option maxRecDepth 20000 in
theorem gX1_copyFrom_X4_copyFrom : GoodIn wsX1_copyFrom (wsV RX1 66 RX4 yX4_copyFrom wsX4_copyFrom) := goodIn_app (goodIn_of _ (by decide +kernel)) ggX1_copyFrom_X4_copyFrom
theorem dX1_copyFrom_0 : decode cX1_copyFrom 0 = .ok (.aload_n 0, 1) := by decide +kernel
theorem dX1_copyFrom_1 : decode cX1_copyFrom 1 = .ok (.aload_n 1, 1) := by decide +kernel
theorem dX1_copyFrom_2 : decode cX1_copyFrom 2 = .ok (.getfield 9, 3) := by decide +kernel
theorem dX1_copyFrom_5 : decode cX1_copyFrom 5 = .ok (.putfield 9, 3) := by decide +kernel
theorem dX1_copyFrom_8 : decode cX1_copyFrom 8 = .ok (.aload_n 0, 1) := by decide +kernel
theorem dX1_copyFrom_9 : decode cX1_copyFrom 9 = .ok (.aload_n 1, 1) := by decide +kernel
theorem dX1_copyFrom_10 : decode cX1_copyFrom 10 = .ok (.getfield 15, 3) := by decide +kernel
theorem dX1_copyFrom_13 : decode cX1_copyFrom 13 = .ok (.putfield 15, 3) := by decide +kernel
theorem dX1_copyFrom_16 : decode cX1_copyFrom 16 = .ok (.aload_n 0, 1) := by decide +kernel
theorem dX1_copyFrom_17 : decode cX1_copyFrom 17 = .ok (.aload_n 1, 1) := by decide +kernel
theorem dX1_copyFrom_18 : decode cX1_copyFrom 18 = .ok (.getfield 18, 3) := by decide +kernel
theorem dX1_copyFrom_21 : decode cX1_copyFrom 21 = .ok (.putfield 18, 3) := by decide +kernel
theorem dX1_copyFrom_24 : decode cX1_copyFrom 24 = .ok (.aload_n 0, 1) := by decide +kernel
theorem dX1_copyFrom_25 : decode cX1_copyFrom 25 = .ok (.aload_n 1, 1) := by decide +kernel
theorem dX1_copyFrom_26 : decode cX1_copyFrom 26 = .ok (.getfield 21, 3) := by decide +kernel
theorem dX1_copyFrom_29 : decode cX1_copyFrom 29 = .ok (.putfield 21, 3) := by decide +kernel
theorem dX1_copyFrom_32 : decode cX1_copyFrom 32 = .ok (.aload_n 0, 1) := by decide +kernel
theorem dX1_copyFrom_33 : decode cX1_copyFrom 33 = .ok (.aload_n 1, 1) := by decide +kernel
theorem dX1_copyFrom_34 : decode cX1_copyFrom 34 = .ok (.getfield 48, 3) := by decide +kernel
theorem dX1_copyFrom_37 : decode cX1_copyFrom 37 = .ok (.putfield 48, 3) := by decide +kernel
theorem dX1_copyFrom_40 : decode cX1_copyFrom 40 = .ok (.aload_n 0, 1) := by decide +kernel
theorem dX1_copyFrom_41 : decode cX1_copyFrom 41 = .ok (.aload_n 1, 1) := by decide +kernel
theorem dX1_copyFrom_42 : decode cX1_copyFrom 42 = .ok (.getfield 51, 3) := by decide +kernel
theorem dX1_copyFrom_45 : decode cX1_copyFrom 45 = .ok (.putfield 51, 3) := by decide +kernel
theorem dX1_copyFrom_48 : decode cX1_copyFrom 48 = .ok (.aload_n 0, 1) := by decide +kernel
theorem dX1_copyFrom_49 : decode cX1_copyFrom 49 = .ok (.aload_n 1, 1) := by decide +kernel
theorem dX1_copyFrom_50 : decode cX1_copyFrom 50 = .ok (.getfield 54, 3) := by decide +kernel
theorem dX1_copyFrom_53 : decode cX1_copyFrom 53 = .ok (.putfield 54, 3) := by decide +kernel
theorem dX1_copyFrom_56 : decode cX1_copyFrom 56 = .ok (.aload_n 0, 1) := by decide +kernel
theorem dX1_copyFrom_57 : decode cX1_copyFrom 57 = .ok (.aload_n 1, 1) := by decide +kernel
theorem dX1_copyFrom_58 : decode cX1_copyFrom 58 = .ok (.getfield 57, 3) := by decide +kernel
theorem dX1_copyFrom_61 : decode cX1_copyFrom 61 = .ok (.putfield 57, 3) := by decide +kernel
theorem dX1_copyFrom_64 : decode cX1_copyFrom 64 = .ok (.aload_n 0, 1) := by decide +kernel
theorem dX1_copyFrom_65 : decode cX1_copyFrom 65 = .ok (.aload_n 1, 1) := by decide +kernel
theorem dX1_copyFrom_66 : decode cX1_copyFrom 66 = .ok (.getfield 60, 3) := by decide +kernel
theorem dX1_copyFrom_69 : decode cX1_copyFrom 69 = .ok (.putfield 60, 3) := by decide +kernel
theorem dX1_copyFrom_72 : decode cX1_copyFrom 72 = .ok (.aload_n 0, 1) := by decide +kernel
theorem dX1_copyFrom_73 : decode cX1_copyFrom 73 = .ok (.aload_n 1, 1) := by decide +kernel
theorem dX1_copyFrom_74 : decode cX1_copyFrom 74 = .ok (.getfield 63, 3) := by decide +kernel
theorem dX1_copyFrom_77 : decode cX1_copyFrom 77 = .ok (.putfield 63, 3) := by decide +kernel
theorem dX1_copyFrom_80 : decode cX1_copyFrom 80 = .ok (.aload_n 0, 1) := by decide +kernel
theorem dX1_copyFrom_81 : decode cX1_copyFrom 81 = .ok (.getfield 29, 3) := by decide +kernel
theorem dX1_copyFrom_84 : decode cX1_copyFrom 84 = .ok (.aload_n 1, 1) := by decide +kernel
theorem dX1_copyFrom_85 : decode cX1_copyFrom 85 = .ok (.getfield 29, 3) := by decide +kernel
theorem dX1_copyFrom_88 : decode cX1_copyFrom 88 = .ok (.invokevirtual 66, 3) := by decide +kernel
theorem dX1_copyFrom_91 : decode cX1_copyFrom 91 = .ok (.aload_n 0, 1) := by decide +kernel
theorem dX1_copyFrom_92 : decode cX1_copyFrom 92 = .ok (.getfield 33, 3) := by decide +kernel
theorem dX1_copyFrom_95 : decode cX1_copyFrom 95 = .ok (.aload_n 1, 1) := by decide +kernel
theorem dX1_copyFrom_96 : decode cX1_copyFrom 96 = .ok (.getfield 33, 3) := by decide +kernel
theorem dX1_copyFrom_99 : decode cX1_copyFrom 99 = .ok (.invokevirtual 66, 3) := by decide +kernel
theorem dX1_copyFrom_102 : decode cX1_copyFrom 102 = .ok (.aload_n 0, 1) := by decide +kernel
theorem dX1_copyFrom_103 : decode cX1_copyFrom 103 = .ok (.getfield 36, 3) := by decide +kernel
theorem dX1_copyFrom_106 : decode cX1_copyFrom 106 = .ok (.aload_n 1, 1) := by decide +kernel
theorem dX1_copyFrom_107 : decode cX1_copyFrom 107 = .ok (.getfield 36, 3) := by decide +kernel
theorem dX1_copyFrom_110 : decode cX1_copyFrom 110 = .ok (.invokevirtual 66, 3) := by decide +kernel
theorem dX1_copyFrom_113 : decode cX1_copyFrom 113 = .ok (.aload_n 0, 1) := by decide +kernel
theorem dX1_copyFrom_114 : decode cX1_copyFrom 114 = .ok (.getfield 39, 3) := by decide +kernel
theorem dX1_copyFrom_117 : decode cX1_copyFrom 117 = .ok (.aload_n 1, 1) := by decide +kernel
theorem dX1_copyFrom_118 : decode cX1_copyFrom 118 = .ok (.getfield 39, 3) := by decide +kernel
theorem dX1_copyFrom_121 : decode cX1_copyFrom 121 = .ok (.invokevirtual 66, 3) := by decide +kernel
theorem dX1_copyFrom_124 : decode cX1_copyFrom 124 = .ok (.aload_n 0, 1) := by decide +kernel
theorem dX1_copyFrom_125 : decode cX1_copyFrom 125 = .ok (.getfield 42, 3) := by decide +kernel
theorem dX1_copyFrom_128 : decode cX1_copyFrom 128 = .ok (.aload_n 1, 1) := by decide +kernel
theorem dX1_copyFrom_129 : decode cX1_copyFrom 129 = .ok (.getfield 42, 3) := by decide +kernel
theorem dX1_copyFrom_132 : decode cX1_copyFrom 132 = .ok (.invokevirtual 66, 3) := by decide +kernel
theorem dX1_copyFrom_135 : decode cX1_copyFrom 135 = .ok (.aload_n 0, 1) := by decide +kernel
theorem dX1_copyFrom_136 : decode cX1_copyFrom 136 = .ok (.getfield 45, 3) := by decide +kernel
theorem dX1_copyFrom_139 : decode cX1_copyFrom 139 = .ok (.aload_n 1, 1) := by decide +kernel
theorem dX1_copyFrom_140 : decode cX1_copyFrom 140 = .ok (.getfield 45, 3) := by decide +kernel
theorem dX1_copyFrom_143 : decode cX1_copyFrom 143 = .ok (.invokevirtual 66, 3) := by decide +kernel
theorem dX1_copyFrom_146 : decode cX1_copyFrom 146 = .ok (.return_, 1) := by decide +kernel
set_option maxRecDepth 20000 in
theorem ggX1_rebuild_X1_countCalls : GoodIn wsX1_rebuild wsX1_countCalls := goodIn_r _ [16, 6, 17, 18, 19, 20, 21, 22, 31, 32, 33, 34, 35, 36, 37, 38, 39, 40, 41, 42, 43, 44, 45, 46, 47] (by decide +kernel) (by decide +kernel)
set_option maxRecDepth 20000 in
theorem gX1_rebuild_X1_countCalls : GoodIn wsX1_rebuild (wsV RX1 70 RX1 yX1_countCalls wsX1_countCalls) := goodIn_app (goodIn_of _ (by decide +kernel)) ggX1_rebuild_X1_countCalls
set_option maxRecDepth 20000 in
theorem ggX1_rebuild_X4_empty : GoodIn wsX1_rebuild wsX4_empty := goodIn_r _ [26, 22, 27, 28, 29, 30, 47] (by decide +kernel) (by decide +kernel)
set_option maxRecDepth 20000 in
theorem gX1_rebuild_X4_empty : GoodIn wsX1_rebuild (wsV RX1 74 RX4 yX4_empty wsX4_empty) := goodIn_app (goodIn_of _ (by decide +kernel)) ggX1_rebuild_X4_empty
theorem dX1_rebuild_0 : decode cX1_rebuild 0 = .ok (.aload_n 0, 1) := by decide +kernel
theorem dX1_rebuild_1 : decode cX1_rebuild 1 = .ok (.invokevirtual 70, 3) := by decide +kernel
theorem dX1_rebuild_4 : decode cX1_rebuild 4 = .ok (.istore 4, 2) := by decide +kernel
theorem dX1_rebuild_6 : decode cX1_rebuild 6 = .ok (.aload_n 0, 1) := by decide +kernel
theorem dX1_rebuild_7 : decode cX1_rebuild 7 = .ok (.dup, 1) := by decide +kernel
theorem dX1_rebuild_8 : decode cX1_rebuild 8 = .ok (.getfield 57, 3) := by decide +kernel
theorem dX1_rebuild_11 : decode cX1_rebuild 11 = .ok (.iload 4, 2) := by decide +kernel
theorem dX1_rebuild_13 : decode cX1_rebuild 13 = .ok (.iadd, 1) := by decide +kernel
theorem dX1_rebuild_14 : decode cX1_rebuild 14 = .ok (.putfield 57, 3) := by decide +kernel
theorem dX1_rebuild_17 : decode cX1_rebuild 17 = .ok (.aload_n 0, 1) := by decide +kernel
theorem dX1_rebuild_18 : decode cX1_rebuild 18 = .ok (.iload_n 1, 1) := by decide +kernel
theorem dX1_rebuild_19 : decode cX1_rebuild 19 = .ok (.putfield 9, 3) := by decide +kernel
theorem dX1_rebuild_22 : decode cX1_rebuild 22 = .ok (.aload_n 0, 1) := by decide +kernel
theorem dX1_rebuild_23 : decode cX1_rebuild 23 = .ok (.iload_n 2, 1) := by decide +kernel
theorem dX1_rebuild_24 : decode cX1_rebuild 24 = .ok (.putfield 15, 3) := by decide +kernel
theorem dX1_rebuild_27 : decode cX1_rebuild 27 = .ok (.aload_n 0, 1) := by decide +kernel
theorem dX1_rebuild_28 : decode cX1_rebuild 28 = .ok (.iload_n 3, 1) := by decide +kernel
theorem dX1_rebuild_29 : decode cX1_rebuild 29 = .ok (.putfield 18, 3) := by decide +kernel
theorem dX1_rebuild_32 : decode cX1_rebuild 32 = .ok (.aload_n 0, 1) := by decide +kernel
theorem dX1_rebuild_33 : decode cX1_rebuild 33 = .ok (.iconst 1, 1) := by decide +kernel
theorem dX1_rebuild_34 : decode cX1_rebuild 34 = .ok (.iload_n 3, 1) := by decide +kernel
theorem dX1_rebuild_35 : decode cX1_rebuild 35 = .ok (.ishl, 1) := by decide +kernel
theorem dX1_rebuild_36 : decode cX1_rebuild 36 = .ok (.iconst 1, 1) := by decide +kernel
theorem dX1_rebuild_37 : decode cX1_rebuild 37 = .ok (.isub, 1) := by decide +kernel
theorem dX1_rebuild_38 : decode cX1_rebuild 38 = .ok (.putfield 21, 3) := by decide +kernel
theorem dX1_rebuild_41 : decode cX1_rebuild 41 = .ok (.aload_n 0, 1) := by decide +kernel
theorem dX1_rebuild_42 : decode cX1_rebuild 42 = .ok (.getfield 29, 3) := by decide +kernel
theorem dX1_rebuild_45 : decode cX1_rebuild 45 = .ok (.invokevirtual 74, 3) := by decide +kernel
theorem dX1_rebuild_48 : decode cX1_rebuild 48 = .ok (.aload_n 0, 1) := by decide +kernel
theorem dX1_rebuild_49 : decode cX1_rebuild 49 = .ok (.getfield 33, 3) := by decide +kernel
theorem dX1_rebuild_52 : decode cX1_rebuild 52 = .ok (.invokevirtual 74, 3) := by decide +kernel
theorem dX1_rebuild_55 : decode cX1_rebuild 55 = .ok (.aload_n 0, 1) := by decide +kernel
theorem dX1_rebuild_56 : decode cX1_rebuild 56 = .ok (.getfield 36, 3) := by decide +kernel
theorem dX1_rebuild_59 : decode cX1_rebuild 59 = .ok (.invokevirtual 74, 3) := by decide +kernel
theorem dX1_rebuild_62 : decode cX1_rebuild 62 = .ok (.aload_n 0, 1) := by decide +kernel
theorem dX1_rebuild_63 : decode cX1_rebuild 63 = .ok (.getfield 39, 3) := by decide +kernel
theorem dX1_rebuild_66 : decode cX1_rebuild 66 = .ok (.invokevirtual 74, 3) := by decide +kernel
theorem dX1_rebuild_69 : decode cX1_rebuild 69 = .ok (.aload_n 0, 1) := by decide +kernel
theorem dX1_rebuild_70 : decode cX1_rebuild 70 = .ok (.getfield 42, 3) := by decide +kernel
theorem dX1_rebuild_73 : decode cX1_rebuild 73 = .ok (.invokevirtual 74, 3) := by decide +kernel
theorem dX1_rebuild_76 : decode cX1_rebuild 76 = .ok (.aload_n 0, 1) := by decide +kernel
theorem dX1_rebuild_77 : decode cX1_rebuild 77 = .ok (.getfield 45, 3) := by decide +kernel
theorem dX1_rebuild_80 : decode cX1_rebuild 80 = .ok (.invokevirtual 74, 3) := by decide +kernel
theorem dX1_rebuild_83 : decode cX1_rebuild 83 = .ok (.iload 4, 2) := by decide +kernel
theorem dX1_rebuild_85 : decode cX1_rebuild 85 = .ok (.ireturn, 1) := by decide +kernel
theorem dX1_isLine_0 : decode cX1_isLine 0 = .ok (.iload_n 1, 1) := by decide +kernel
theorem dX1_isLine_1 : decode cX1_isLine 1 = .ok (.ifCond .lt 20, 3) := by decide +kernel
theorem dX1_isLine_4 : decode cX1_isLine 4 = .ok (.iload_n 1, 1) := by decide +kernel
theorem dX1_isLine_5 : decode cX1_isLine 5 = .ok (.aload_n 0, 1) := by decide +kernel
theorem dX1_isLine_6 : decode cX1_isLine 6 = .ok (.getfield 9, 3) := by decide +kernel
theorem dX1_isLine_9 : decode cX1_isLine 9 = .ok (.aload_n 0, 1) := by decide +kernel
theorem dX1_isLine_10 : decode cX1_isLine 10 = .ok (.getfield 15, 3) := by decide +kernel
theorem dX1_isLine_13 : decode cX1_isLine 13 = .ok (.imul, 1) := by decide +kernel
theorem dX1_isLine_14 : decode cX1_isLine 14 = .ok (.if_icmp .ge 7, 3) := by decide +kernel
theorem dX1_isLine_17 : decode cX1_isLine 17 = .ok (.iconst 1, 1) := by decide +kernel
theorem dX1_isLine_18 : decode cX1_isLine 18 = .ok (.goto 4, 3) := by decide +kernel
theorem dX1_isLine_21 : decode cX1_isLine 21 = .ok (.iconst 0, 1) := by decide +kernel
theorem dX1_isLine_22 : decode cX1_isLine 22 = .ok (.ireturn, 1) := by decide +kernel
theorem dX1_isBoard_0 : decode cX1_isBoard 0 = .ok (.iload_n 1, 1) := by decide +kernel
theorem dX1_isBoard_1 : decode cX1_isBoard 1 = .ok (.ifCond .lt 15, 3) := by decide +kernel
theorem dX1_isBoard_4 : decode cX1_isBoard 4 = .ok (.iload_n 1, 1) := by decide +kernel
theorem dX1_isBoard_5 : decode cX1_isBoard 5 = .ok (.aload_n 0, 1) := by decide +kernel
theorem dX1_isBoard_6 : decode cX1_isBoard 6 = .ok (.getfield 9, 3) := by decide +kernel
theorem dX1_isBoard_9 : decode cX1_isBoard 9 = .ok (.if_icmp .ge 7, 3) := by decide +kernel
theorem dX1_isBoard_12 : decode cX1_isBoard 12 = .ok (.iconst 1, 1) := by decide +kernel
theorem dX1_isBoard_13 : decode cX1_isBoard 13 = .ok (.goto 4, 3) := by decide +kernel
theorem dX1_isBoard_16 : decode cX1_isBoard 16 = .ok (.iconst 0, 1) := by decide +kernel
theorem dX1_isBoard_17 : decode cX1_isBoard 17 = .ok (.ireturn, 1) := by decide +kernel
theorem dX1_isMiddle_0 : decode cX1_isMiddle 0 = .ok (.iload_n 1, 1) := by decide +kernel
theorem dX1_isMiddle_1 : decode cX1_isMiddle 1 = .ok (.ifCond .lt 15, 3) := by decide +kernel
theorem dX1_isMiddle_4 : decode cX1_isMiddle 4 = .ok (.iload_n 1, 1) := by decide +kernel
theorem dX1_isMiddle_5 : decode cX1_isMiddle 5 = .ok (.aload_n 0, 1) := by decide +kernel
theorem dX1_isMiddle_6 : decode cX1_isMiddle 6 = .ok (.getfield 18, 3) := by decide +kernel
theorem dX1_isMiddle_9 : decode cX1_isMiddle 9 = .ok (.if_icmp .ge 7, 3) := by decide +kernel
theorem dX1_isMiddle_12 : decode cX1_isMiddle 12 = .ok (.iconst 1, 1) := by decide +kernel
theorem dX1_isMiddle_13 : decode cX1_isMiddle 13 = .ok (.goto 4, 3) := by decide +kernel
theorem dX1_isMiddle_16 : decode cX1_isMiddle 16 = .ok (.iconst 0, 1) := by decide +kernel
theorem dX1_isMiddle_17 : decode cX1_isMiddle 17 = .ok (.ireturn, 1) := by decide +kernel
set_option maxRecDepth 20000 in
theorem ggX1_isInletBusy_X4_get : GoodIn wsX1_isInletBusy wsX4_get := goodIn_r _ [6, 7, 24] (by decide +kernel) (by decide +kernel)
set_option maxRecDepth 20000 in
theorem gX1_isInletBusy_X4_get : GoodIn wsX1_isInletBusy (wsV RX1 77 RX4 yX4_get wsX4_get) := goodIn_app (goodIn_of _ (by decide +kernel)) ggX1_isInletBusy_X4_get
theorem dX1_isInletBusy_0 : decode cX1_isInletBusy 0 = .ok (.aload_n 0, 1) := by decide +kernel
theorem dX1_isInletBusy_1 : decode cX1_isInletBusy 1 = .ok (.getfield 29, 3) := by decide +kernel
theorem dX1_isInletBusy_4 : decode cX1_isInletBusy 4 = .ok (.iload_n 1, 1) := by decide +kernel
theorem dX1_isInletBusy_5 : decode cX1_isInletBusy 5 = .ok (.invokevirtual 77, 3) := by decide +kernel
theorem dX1_isInletBusy_8 : decode cX1_isInletBusy 8 = .ok (.ifCond .lt 7, 3) := by decide +kernel
theorem dX1_isInletBusy_11 : decode cX1_isInletBusy 11 = .ok (.iconst 1, 1) := by decide +kernel
theorem dX1_isInletBusy_12 : decode cX1_isInletBusy 12 = .ok (.goto 4, 3) := by decide +kernel
theorem dX1_isInletBusy_15 : decode cX1_isInletBusy 15 = .ok (.iconst 0, 1) := by decide +kernel
theorem dX1_isInletBusy_16 : decode cX1_isInletBusy 16 = .ok (.ireturn, 1) := by decide +kernel
set_option maxRecDepth 20000 in
theorem ggX1_isOutletBusy_X4_get : GoodIn wsX1_isOutletBusy wsX4_get := goodIn_r _ [6, 7, 24] (by decide +kernel) (by decide +kernel)
set_option maxRecDepth 20000 in
theorem gX1_isOutletBusy_X4_get : GoodIn wsX1_isOutletBusy (wsV RX1 77 RX4 yX4_get wsX4_get) := goodIn_app (goodIn_of _ (by decide +kernel)) ggX1_isOutletBusy_X4_get
theorem dX1_isOutletBusy_0 : decode cX1_isOutletBusy 0 = .ok (.aload_n 0, 1) := by decide +kernel
theorem dX1_isOutletBusy_1 : decode cX1_isOutletBusy 1 = .ok (.getfield 39, 3) := by decide +kernel
theorem dX1_isOutletBusy_4 : decode cX1_isOutletBusy 4 = .ok (.iload_n 1, 1) := by decide +kernel
theorem dX1_isOutletBusy_5 : decode cX1_isOutletBusy 5 = .ok (.invokevirtual 77, 3) := by decide +kernel
theorem dX1_isOutletBusy_8 : decode cX1_isOutletBusy 8 = .ok (.ifCond .lt 7, 3) := by decide +kernel
theorem dX1_isOutletBusy_11 : decode cX1_isOutletBusy 11 = .ok (.iconst 1, 1) := by decide +kernel
theorem dX1_isOutletBusy_12 : decode cX1_isOutletBusy 12 = .ok (.goto 4, 3) := by decide +kernel
theorem dX1_isOutletBusy_15 : decode cX1_isOutletBusy 15 = .ok (.iconst 0, 1) := by decide +kernel
theorem dX1_isOutletBusy_16 : decode cX1_isOutletBusy 16 = .ok (.ireturn, 1) := by decide +kernel
theorem dX1_boardOf_0 : decode cX1_boardOf 0 = .ok (.aload_n 0, 1) := by decide +kernel
theorem dX1_boardOf_1 : decode cX1_boardOf 1 = .ok (.getfield 15, 3) := by decide +kernel
theorem dX1_boardOf_4 : decode cX1_boardOf 4 = .ok (.ifCond .le 12, 3) := by decide +kernel
theorem dX1_boardOf_7 : decode cX1_boardOf 7 = .ok (.iload_n 1, 1) := by decide +kernel
theorem dX1_boardOf_8 : decode cX1_boardOf 8 = .ok (.aload_n 0, 1) := by decide +kernel
theorem dX1_boardOf_9 : decode cX1_boardOf 9 = .ok (.getfield 15, 3) := by decide +kernel
theorem dX1_boardOf_12 : decode cX1_boardOf 12 = .ok (.idiv, 1) := by decide +kernel
theorem dX1_boardOf_13 : decode cX1_boardOf 13 = .ok (.goto 4, 3) := by decide +kernel
theorem dX1_boardOf_16 : decode cX1_boardOf 16 = .ok (.iconst 0, 1) := by decide +kernel
theorem dX1_boardOf_17 : decode cX1_boardOf 17 = .ok (.ireturn, 1) := by decide +kernel
set_option maxRecDepth 20000 in
theorem ggX1_countCalls_X4_get : GoodIn wsX1_countCalls wsX4_get := goodIn_r _ [6, 7, 24] (by decide +kernel) (by decide +kernel)
set_option maxRecDepth 20000 in
theorem gX1_countCalls_X4_get : GoodIn wsX1_countCalls (wsV RX1 77 RX4 yX4_get wsX4_get) := goodIn_app (goodIn_of _ (by decide +kernel)) ggX1_countCalls_X4_get
theorem dX1_countCalls_0 : decode cX1_countCalls 0 = .ok (.iconst 0, 1) := by decide +kernel
theorem dX1_countCalls_1 : decode cX1_countCalls 1 = .ok (.istore_n 1, 1) := by decide +kernel
theorem dX1_countCalls_2 : decode cX1_countCalls 2 = .ok (.iconst 0, 1) := by decide +kernel
theorem dX1_countCalls_3 : decode cX1_countCalls 3 = .ok (.istore_n 2, 1) := by decide +kernel
theorem dX1_countCalls_4 : decode cX1_countCalls 4 = .ok (.iload_n 2, 1) := by decide +kernel
theorem dX1_countCalls_5 : decode cX1_countCalls 5 = .ok (.bipush 48, 2) := by decide +kernel
theorem dX1_countCalls_7 : decode cX1_countCalls 7 = .ok (.if_icmp .ge 28, 3) := by decide +kernel
theorem dX1_countCalls_10 : decode cX1_countCalls 10 = .ok (.iload_n 1, 1) := by decide +kernel
theorem dX1_countCalls_11 : decode cX1_countCalls 11 = .ok (.aload_n 0, 1) := by decide +kernel
theorem dX1_countCalls_12 : decode cX1_countCalls 12 = .ok (.getfield 29, 3) := by decide +kernel
theorem dX1_countCalls_15 : decode cX1_countCalls 15 = .ok (.iload_n 2, 1) := by decide +kernel
theorem dX1_countCalls_16 : decode cX1_countCalls 16 = .ok (.invokevirtual 77, 3) := by decide +kernel
theorem dX1_countCalls_19 : decode cX1_countCalls 19 = .ok (.ifCond .lt 7, 3) := by decide +kernel
theorem dX1_countCalls_22 : decode cX1_countCalls 22 = .ok (.iconst 1, 1) := by decide +kernel
theorem dX1_countCalls_23 : decode cX1_countCalls 23 = .ok (.goto 4, 3) := by decide +kernel
theorem dX1_countCalls_26 : decode cX1_countCalls 26 = .ok (.iconst 0, 1) := by decide +kernel
theorem dX1_countCalls_27 : decode cX1_countCalls 27 = .ok (.iadd, 1) := by decide +kernel
theorem dX1_countCalls_28 : decode cX1_countCalls 28 = .ok (.istore_n 1, 1) := by decide +kernel
theorem dX1_countCalls_29 : decode cX1_countCalls 29 = .ok (.iinc 2 1, 3) := by decide +kernel
theorem dX1_countCalls_32 : decode cX1_countCalls 32 = .ok (.goto (-28), 3) := by decide +kernel
theorem dX1_countCalls_35 : decode cX1_countCalls 35 = .ok (.iload_n 1, 1) := by decide +kernel
theorem dX1_countCalls_36 : decode cX1_countCalls 36 = .ok (.ireturn, 1) := by decide +kernel
set_option maxRecDepth 20000 in
theorem ggX1_findInlet_X4_get : GoodIn wsX1_findInlet wsX4_get := goodIn_r _ [6, 7, 24] (by decide +kernel) (by decide +kernel)
set_option maxRecDepth 20000 in
theorem gX1_findInlet_X4_get : GoodIn wsX1_findInlet (wsV RX1 77 RX4 yX4_get wsX4_get) := goodIn_app (goodIn_of _ (by decide +kernel)) ggX1_findInlet_X4_get
theorem dX1_findInlet_0 : decode cX1_findInlet 0 = .ok (.iload_n 1, 1) := by decide +kernel
theorem dX1_findInlet_1 : decode cX1_findInlet 1 = .ok (.ifCond .ge 5, 3) := by decide +kernel
theorem dX1_findInlet_4 : decode cX1_findInlet 4 = .ok (.iconst (-1), 1) := by decide +kernel
theorem dX1_findInlet_5 : decode cX1_findInlet 5 = .ok (.ireturn, 1) := by decide +kernel
theorem dX1_findInlet_6 : decode cX1_findInlet 6 = .ok (.iconst 0, 1) := by decide +kernel
theorem dX1_findInlet_7 : decode cX1_findInlet 7 = .ok (.istore_n 2, 1) := by decide +kernel
theorem dX1_findInlet_8 : decode cX1_findInlet 8 = .ok (.iload_n 2, 1) := by decide +kernel
theorem dX1_findInlet_9 : decode cX1_findInlet 9 = .ok (.bipush 48, 2) := by decide +kernel
theorem dX1_findInlet_11 : decode cX1_findInlet 11 = .ok (.if_icmp .ge 23, 3) := by decide +kernel
theorem dX1_findInlet_14 : decode cX1_findInlet 14 = .ok (.aload_n 0, 1) := by decide +kernel
theorem dX1_findInlet_15 : decode cX1_findInlet 15 = .ok (.getfield 29, 3) := by decide +kernel
theorem dX1_findInlet_18 : decode cX1_findInlet 18 = .ok (.iload_n 2, 1) := by decide +kernel
theorem dX1_findInlet_19 : decode cX1_findInlet 19 = .ok (.invokevirtual 77, 3) := by decide +kernel
theorem dX1_findInlet_22 : decode cX1_findInlet 22 = .ok (.iload_n 1, 1) := by decide +kernel
theorem dX1_findInlet_23 : decode cX1_findInlet 23 = .ok (.if_icmp .ne 5, 3) := by decide +kernel
theorem dX1_findInlet_26 : decode cX1_findInlet 26 = .ok (.iload_n 2, 1) := by decide +kernel
theorem dX1_findInlet_27 : decode cX1_findInlet 27 = .ok (.ireturn, 1) := by decide +kernel
theorem dX1_findInlet_28 : decode cX1_findInlet 28 = .ok (.iinc 2 1, 3) := by decide +kernel
theorem dX1_findInlet_31 : decode cX1_findInlet 31 = .ok (.goto (-23), 3) := by decide +kernel
theorem dX1_findInlet_34 : decode cX1_findInlet 34 = .ok (.iconst (-1), 1) := by decide +kernel
theorem dX1_findInlet_35 : decode cX1_findInlet 35 = .ok (.ireturn, 1) := by decide +kernel
set_option maxRecDepth 20000 in
theorem ggX1_loadOf_X5_link : GoodIn wsX1_loadOf wsX5_link := goodIn_r _ [5] (by decide +kernel) (by decide +kernel)
set_option maxRecDepth 20000 in
theorem gX1_loadOf_X5_link_n81 : GoodIn wsX1_loadOf (wsX5_link) := ggX1_loadOf_X5_link
set_option maxRecDepth 20000 in
theorem ggX1_loadOf_X4_get : GoodIn wsX1_loadOf wsX4_get := goodIn_r _ [10, 11, 28] (by decide +kernel) (by decide +kernel)
set_option maxRecDepth 20000 in
theorem gX1_loadOf_X4_get : GoodIn wsX1_loadOf (wsV RX1 77 RX4 yX4_get wsX4_get) := goodIn_app (goodIn_of _ (by decide +kernel)) ggX1_loadOf_X4_get
theorem dX1_loadOf_0 : decode cX1_loadOf 0 = .ok (.iconst 0, 1) := by decide +kernel
theorem dX1_loadOf_1 : decode cX1_loadOf 1 = .ok (.istore_n 2, 1) := by decide +kernel
theorem dX1_loadOf_2 : decode cX1_loadOf 2 = .ok (.iconst 0, 1) := by decide +kernel
theorem dX1_loadOf_3 : decode cX1_loadOf 3 = .ok (.istore_n 3, 1) := by decide +kernel
theorem dX1_loadOf_4 : decode cX1_loadOf 4 = .ok (.iload_n 3, 1) := by decide +kernel
theorem dX1_loadOf_5 : decode cX1_loadOf 5 = .ok (.aload_n 0, 1) := by decide +kernel
theorem dX1_loadOf_6 : decode cX1_loadOf 6 = .ok (.getfield 9, 3) := by decide +kernel
theorem dX1_loadOf_9 : decode cX1_loadOf 9 = .ok (.if_icmp .ge 32, 3) := by decide +kernel
theorem dX1_loadOf_12 : decode cX1_loadOf 12 = .ok (.iload_n 2, 1) := by decide +kernel
theorem dX1_loadOf_13 : decode cX1_loadOf 13 = .ok (.aload_n 0, 1) := by decide +kernel
theorem dX1_loadOf_14 : decode cX1_loadOf 14 = .ok (.getfield 42, 3) := by decide +kernel
theorem dX1_loadOf_17 : decode cX1_loadOf 17 = .ok (.iload_n 3, 1) := by decide +kernel
theorem dX1_loadOf_18 : decode cX1_loadOf 18 = .ok (.iload_n 1, 1) := by decide +kernel
theorem dX1_loadOf_19 : decode cX1_loadOf 19 = .ok (.invokestatic 81, 3) := by decide +kernel
theorem dX1_loadOf_22 : decode cX1_loadOf 22 = .ok (.invokevirtual 77, 3) := by decide +kernel
theorem dX1_loadOf_25 : decode cX1_loadOf 25 = .ok (.ifCond .lt 7, 3) := by decide +kernel
theorem dX1_loadOf_28 : decode cX1_loadOf 28 = .ok (.iconst 1, 1) := by decide +kernel
theorem dX1_loadOf_29 : decode cX1_loadOf 29 = .ok (.goto 4, 3) := by decide +kernel
theorem dX1_loadOf_32 : decode cX1_loadOf 32 = .ok (.iconst 0, 1) := by decide +kernel
theorem dX1_loadOf_33 : decode cX1_loadOf 33 = .ok (.iadd, 1) := by decide +kernel
theorem dX1_loadOf_34 : decode cX1_loadOf 34 = .ok (.istore_n 2, 1) := by decide +kernel
theorem dX1_loadOf_35 : decode cX1_loadOf 35 = .ok (.iinc 3 1, 3) := by decide +kernel
theorem dX1_loadOf_38 : decode cX1_loadOf 38 = .ok (.goto (-34), 3) := by decide +kernel
theorem dX1_loadOf_41 : decode cX1_loadOf 41 = .ok (.iload_n 2, 1) := by decide +kernel
theorem dX1_loadOf_42 : decode cX1_loadOf 42 = .ok (.ireturn, 1) := by decide +kernel
set_option maxRecDepth 20000 in
theorem ggX1_freeOnLinks_X5_link : GoodIn wsX1_freeOnLinks wsX5_link := goodIn_r _ [5] (by decide +kernel) (by decide +kernel)
set_option maxRecDepth 20000 in
theorem gX1_freeOnLinks_X5_link_n81 : GoodIn wsX1_freeOnLinks (wsX5_link) := ggX1_freeOnLinks_X5_link
set_option maxRecDepth 20000 in
theorem ggX1_freeOnLinks_X4_get : GoodIn wsX1_freeOnLinks wsX4_get := goodIn_r _ [10, 11, 28] (by decide +kernel) (by decide +kernel)
set_option maxRecDepth 20000 in
theorem gX1_freeOnLinks_X4_get : GoodIn wsX1_freeOnLinks (wsV RX1 77 RX4 yX4_get wsX4_get) := goodIn_app (goodIn_of _ (by decide +kernel)) ggX1_freeOnLinks_X4_get
theorem dX1_freeOnLinks_0 : decode cX1_freeOnLinks 0 = .ok (.iconst 0, 1) := by decide +kernel
theorem dX1_freeOnLinks_1 : decode cX1_freeOnLinks 1 = .ok (.istore_n 3, 1) := by decide +kernel
theorem dX1_freeOnLinks_2 : decode cX1_freeOnLinks 2 = .ok (.iconst 0, 1) := by decide +kernel
theorem dX1_freeOnLinks_3 : decode cX1_freeOnLinks 3 = .ok (.istore 4, 2) := by decide +kernel
theorem dX1_freeOnLinks_5 : decode cX1_freeOnLinks 5 = .ok (.iload 4, 2) := by decide +kernel
theorem dX1_freeOnLinks_7 : decode cX1_freeOnLinks 7 = .ok (.aload_n 0, 1) := by decide +kernel
theorem dX1_freeOnLinks_8 : decode cX1_freeOnLinks 8 = .ok (.getfield 18, 3) := by decide +kernel
theorem dX1_freeOnLinks_11 : decode cX1_freeOnLinks 11 = .ok (.if_icmp .ge 29, 3) := by decide +kernel
theorem dX1_freeOnLinks_14 : decode cX1_freeOnLinks 14 = .ok (.aload_n 1, 1) := by decide +kernel
theorem dX1_freeOnLinks_15 : decode cX1_freeOnLinks 15 = .ok (.iload_n 2, 1) := by decide +kernel
theorem dX1_freeOnLinks_16 : decode cX1_freeOnLinks 16 = .ok (.iload 4, 2) := by decide +kernel
theorem dX1_freeOnLinks_18 : decode cX1_freeOnLinks 18 = .ok (.invokestatic 81, 3) := by decide +kernel
theorem dX1_freeOnLinks_21 : decode cX1_freeOnLinks 21 = .ok (.invokevirtual 77, 3) := by decide +kernel
theorem dX1_freeOnLinks_24 : decode cX1_freeOnLinks 24 = .ok (.ifCond .ge 10, 3) := by decide +kernel
theorem dX1_freeOnLinks_27 : decode cX1_freeOnLinks 27 = .ok (.iload_n 3, 1) := by decide +kernel
theorem dX1_freeOnLinks_28 : decode cX1_freeOnLinks 28 = .ok (.iconst 1, 1) := by decide +kernel
theorem dX1_freeOnLinks_29 : decode cX1_freeOnLinks 29 = .ok (.iload 4, 2) := by decide +kernel
theorem dX1_freeOnLinks_31 : decode cX1_freeOnLinks 31 = .ok (.ishl, 1) := by decide +kernel
theorem dX1_freeOnLinks_32 : decode cX1_freeOnLinks 32 = .ok (.ior, 1) := by decide +kernel
theorem dX1_freeOnLinks_33 : decode cX1_freeOnLinks 33 = .ok (.istore_n 3, 1) := by decide +kernel
theorem dX1_freeOnLinks_34 : decode cX1_freeOnLinks 34 = .ok (.iinc 4 1, 3) := by decide +kernel
theorem dX1_freeOnLinks_37 : decode cX1_freeOnLinks 37 = .ok (.goto (-32), 3) := by decide +kernel
theorem dX1_freeOnLinks_40 : decode cX1_freeOnLinks 40 = .ok (.iload_n 3, 1) := by decide +kernel
theorem dX1_freeOnLinks_41 : decode cX1_freeOnLinks 41 = .ok (.aload_n 0, 1) := by decide +kernel
theorem dX1_freeOnLinks_42 : decode cX1_freeOnLinks 42 = .ok (.getfield 21, 3) := by decide +kernel
theorem dX1_freeOnLinks_45 : decode cX1_freeOnLinks 45 = .ok (.iand, 1) := by decide +kernel
theorem dX1_freeOnLinks_46 : decode cX1_freeOnLinks 46 = .ok (.ireturn, 1) := by decide +kernel
set_option maxRecDepth 20000 in
theorem ggX1_fullestBoard_X1_isInletBusy : GoodIn wsX1_fullestBoard wsX1_isInletBusy := goodIn_r _ [11, 12, 13, 14, 15, 16, 17, 18, 24, 25, 26, 27, 28, 29, 30, 31, 32, 33, 34, 35, 36, 37, 38, 39, 40] (by decide +kernel) (by decide +kernel)
set_option maxRecDepth 20000 in
theorem gX1_fullestBoard_X1_isInletBusy : GoodIn wsX1_fullestBoard (wsV RX1 85 RX1 yX1_isInletBusy wsX1_isInletBusy) := goodIn_app (goodIn_of _ (by decide +kernel)) ggX1_fullestBoard_X1_isInletBusy
set_option maxRecDepth 20000 in
theorem ggX1_fullestBoard_X1_isOutletBusy : GoodIn wsX1_fullestBoard wsX1_isOutletBusy := goodIn_r _ [22, 23, 13, 14, 15, 16, 17, 18, 24, 25, 26, 27, 28, 29, 30, 31, 32, 33, 34, 35, 36, 37, 38, 39, 40] (by decide +kernel) (by decide +kernel)
set_option maxRecDepth 20000 in
theorem gX1_fullestBoard_X1_isOutletBusy : GoodIn wsX1_fullestBoard (wsV RX1 89 RX1 yX1_isOutletBusy wsX1_isOutletBusy) := goodIn_app (goodIn_of _ (by decide +kernel)) ggX1_fullestBoard_X1_isOutletBusy
theorem dX1_fullestBoard_0 : decode cX1_fullestBoard 0 = .ok (.iconst 0, 1) := by decide +kernel
theorem dX1_fullestBoard_1 : decode cX1_fullestBoard 1 = .ok (.istore_n 1, 1) := by decide +kernel
theorem dX1_fullestBoard_2 : decode cX1_fullestBoard 2 = .ok (.iconst 0, 1) := by decide +kernel
theorem dX1_fullestBoard_3 : decode cX1_fullestBoard 3 = .ok (.istore_n 2, 1) := by decide +kernel
theorem dX1_fullestBoard_4 : decode cX1_fullestBoard 4 = .ok (.iload_n 2, 1) := by decide +kernel
theorem dX1_fullestBoard_5 : decode cX1_fullestBoard 5 = .ok (.aload_n 0, 1) := by decide +kernel
theorem dX1_fullestBoard_6 : decode cX1_fullestBoard 6 = .ok (.getfield 9, 3) := by decide +kernel
theorem dX1_fullestBoard_9 : decode cX1_fullestBoard 9 = .ok (.if_icmp .ge 88, 3) := by decide +kernel
theorem dX1_fullestBoard_12 : decode cX1_fullestBoard 12 = .ok (.iconst 0, 1) := by decide +kernel
theorem dX1_fullestBoard_13 : decode cX1_fullestBoard 13 = .ok (.istore_n 3, 1) := by decide +kernel
theorem dX1_fullestBoard_14 : decode cX1_fullestBoard 14 = .ok (.iconst 0, 1) := by decide +kernel
theorem dX1_fullestBoard_15 : decode cX1_fullestBoard 15 = .ok (.istore 4, 2) := by decide +kernel
theorem dX1_fullestBoard_17 : decode cX1_fullestBoard 17 = .ok (.iload_n 2, 1) := by decide +kernel
theorem dX1_fullestBoard_18 : decode cX1_fullestBoard 18 = .ok (.aload_n 0, 1) := by decide +kernel
theorem dX1_fullestBoard_19 : decode cX1_fullestBoard 19 = .ok (.getfield 15, 3) := by decide +kernel
theorem dX1_fullestBoard_22 : decode cX1_fullestBoard 22 = .ok (.imul, 1) := by decide +kernel
theorem dX1_fullestBoard_23 : decode cX1_fullestBoard 23 = .ok (.istore 5, 2) := by decide +kernel
theorem dX1_fullestBoard_25 : decode cX1_fullestBoard 25 = .ok (.iload 5, 2) := by decide +kernel
theorem dX1_fullestBoard_27 : decode cX1_fullestBoard 27 = .ok (.iload_n 2, 1) := by decide +kernel
theorem dX1_fullestBoard_28 : decode cX1_fullestBoard 28 = .ok (.iconst 1, 1) := by decide +kernel
theorem dX1_fullestBoard_29 : decode cX1_fullestBoard 29 = .ok (.iadd, 1) := by decide +kernel
theorem dX1_fullestBoard_30 : decode cX1_fullestBoard 30 = .ok (.aload_n 0, 1) := by decide +kernel
theorem dX1_fullestBoard_31 : decode cX1_fullestBoard 31 = .ok (.getfield 15, 3) := by decide +kernel
theorem dX1_fullestBoard_34 : decode cX1_fullestBoard 34 = .ok (.imul, 1) := by decide +kernel
theorem dX1_fullestBoard_35 : decode cX1_fullestBoard 35 = .ok (.if_icmp .ge 45, 3) := by decide +kernel
theorem dX1_fullestBoard_38 : decode cX1_fullestBoard 38 = .ok (.iload_n 3, 1) := by decide +kernel
theorem dX1_fullestBoard_39 : decode cX1_fullestBoard 39 = .ok (.aload_n 0, 1) := by decide +kernel
theorem dX1_fullestBoard_40 : decode cX1_fullestBoard 40 = .ok (.iload 5, 2) := by decide +kernel
theorem dX1_fullestBoard_42 : decode cX1_fullestBoard 42 = .ok (.invokevirtual 85, 3) := by decide +kernel
theorem dX1_fullestBoard_45 : decode cX1_fullestBoard 45 = .ok (.ifCond .eq 7, 3) := by decide +kernel
theorem dX1_fullestBoard_48 : decode cX1_fullestBoard 48 = .ok (.iconst 1, 1) := by decide +kernel
theorem dX1_fullestBoard_49 : decode cX1_fullestBoard 49 = .ok (.goto 4, 3) := by decide +kernel
theorem dX1_fullestBoard_52 : decode cX1_fullestBoard 52 = .ok (.iconst 0, 1) := by decide +kernel
theorem dX1_fullestBoard_53 : decode cX1_fullestBoard 53 = .ok (.iadd, 1) := by decide +kernel
theorem dX1_fullestBoard_54 : decode cX1_fullestBoard 54 = .ok (.istore_n 3, 1) := by decide +kernel
theorem dX1_fullestBoard_55 : decode cX1_fullestBoard 55 = .ok (.iload 4, 2) := by decide +kernel
theorem dX1_fullestBoard_57 : decode cX1_fullestBoard 57 = .ok (.aload_n 0, 1) := by decide +kernel
theorem dX1_fullestBoard_58 : decode cX1_fullestBoard 58 = .ok (.iload 5, 2) := by decide +kernel
theorem dX1_fullestBoard_60 : decode cX1_fullestBoard 60 = .ok (.invokevirtual 89, 3) := by decide +kernel
theorem dX1_fullestBoard_63 : decode cX1_fullestBoard 63 = .ok (.ifCond .eq 7, 3) := by decide +kernel
theorem dX1_fullestBoard_66 : decode cX1_fullestBoard 66 = .ok (.iconst 1, 1) := by decide +kernel
theorem dX1_fullestBoard_67 : decode cX1_fullestBoard 67 = .ok (.goto 4, 3) := by decide +kernel
theorem dX1_fullestBoard_70 : decode cX1_fullestBoard 70 = .ok (.iconst 0, 1) := by decide +kernel
theorem dX1_fullestBoard_71 : decode cX1_fullestBoard 71 = .ok (.iadd, 1) := by decide +kernel
theorem dX1_fullestBoard_72 : decode cX1_fullestBoard 72 = .ok (.istore 4, 2) := by decide +kernel
theorem dX1_fullestBoard_74 : decode cX1_fullestBoard 74 = .ok (.iinc 5 1, 3) := by decide +kernel
theorem dX1_fullestBoard_77 : decode cX1_fullestBoard 77 = .ok (.goto (-52), 3) := by decide +kernel
theorem dX1_fullestBoard_80 : decode cX1_fullestBoard 80 = .ok (.iload_n 1, 1) := by decide +kernel
theorem dX1_fullestBoard_81 : decode cX1_fullestBoard 81 = .ok (.iload_n 3, 1) := by decide +kernel
theorem dX1_fullestBoard_82 : decode cX1_fullestBoard 82 = .ok (.iload 4, 2) := by decide +kernel
theorem dX1_fullestBoard_84 : decode cX1_fullestBoard 84 = .ok (.invokestatic 92, 3) := by decide +kernel
theorem dX1_fullestBoard_87 : decode cX1_fullestBoard 87 = .ok (.invokestatic 92, 3) := by decide +kernel
theorem dX1_fullestBoard_90 : decode cX1_fullestBoard 90 = .ok (.istore_n 1, 1) := by decide +kernel
theorem dX1_fullestBoard_91 : decode cX1_fullestBoard 91 = .ok (.iinc 2 1, 3) := by decide +kernel
theorem dX1_fullestBoard_94 : decode cX1_fullestBoard 94 = .ok (.goto (-90), 3) := by decide +kernel
theorem dX1_fullestBoard_97 : decode cX1_fullestBoard 97 = .ok (.iload_n 1, 1) := by decide +kernel
theorem dX1_fullestBoard_98 : decode cX1_fullestBoard 98 = .ok (.ireturn, 1) := by decide +kernel
set_option maxRecDepth 20000 in
theorem ggX1_addCall_X4_set : GoodIn wsX1_addCall wsX4_set := goodIn_r _ [9, 10, 27] (by decide +kernel) (by decide +kernel)
set_option maxRecDepth 20000 in
theorem gX1_addCall_X4_set : GoodIn wsX1_addCall (wsV RX1 97 RX4 yX4_set wsX4_set) := goodIn_app (goodIn_of _ (by decide +kernel)) ggX1_addCall_X4_set
theorem dX1_addCall_0 : decode cX1_addCall 0 = .ok (.aload_n 0, 1) := by decide +kernel
theorem dX1_addCall_1 : decode cX1_addCall 1 = .ok (.getfield 29, 3) := by decide +kernel
theorem dX1_addCall_4 : decode cX1_addCall 4 = .ok (.iload_n 1, 1) := by decide +kernel
theorem dX1_addCall_5 : decode cX1_addCall 5 = .ok (.aload_n 0, 1) := by decide +kernel
theorem dX1_addCall_6 : decode cX1_addCall 6 = .ok (.getfield 54, 3) := by decide +kernel
theorem dX1_addCall_9 : decode cX1_addCall 9 = .ok (.invokevirtual 97, 3) := by decide +kernel
theorem dX1_addCall_12 : decode cX1_addCall 12 = .ok (.aload_n 0, 1) := by decide +kernel
theorem dX1_addCall_13 : decode cX1_addCall 13 = .ok (.getfield 33, 3) := by decide +kernel
theorem dX1_addCall_16 : decode cX1_addCall 16 = .ok (.iload_n 1, 1) := by decide +kernel
theorem dX1_addCall_17 : decode cX1_addCall 17 = .ok (.iload_n 2, 1) := by decide +kernel
theorem dX1_addCall_18 : decode cX1_addCall 18 = .ok (.invokevirtual 97, 3) := by decide +kernel
theorem dX1_addCall_21 : decode cX1_addCall 21 = .ok (.aload_n 0, 1) := by decide +kernel
theorem dX1_addCall_22 : decode cX1_addCall 22 = .ok (.getfield 39, 3) := by decide +kernel
theorem dX1_addCall_25 : decode cX1_addCall 25 = .ok (.iload_n 2, 1) := by decide +kernel
theorem dX1_addCall_26 : decode cX1_addCall 26 = .ok (.iload_n 1, 1) := by decide +kernel
theorem dX1_addCall_27 : decode cX1_addCall 27 = .ok (.invokevirtual 97, 3) := by decide +kernel
theorem dX1_addCall_30 : decode cX1_addCall 30 = .ok (.aload_n 0, 1) := by decide +kernel
theorem dX1_addCall_31 : decode cX1_addCall 31 = .ok (.dup, 1) := by decide +kernel
theorem dX1_addCall_32 : decode cX1_addCall 32 = .ok (.getfield 54, 3) := by decide +kernel
theorem dX1_addCall_35 : decode cX1_addCall 35 = .ok (.iconst 1, 1) := by decide +kernel
theorem dX1_addCall_36 : decode cX1_addCall 36 = .ok (.iadd, 1) := by decide +kernel
theorem dX1_addCall_37 : decode cX1_addCall 37 = .ok (.putfield 54, 3) := by decide +kernel
theorem dX1_addCall_40 : decode cX1_addCall 40 = .ok (.return_, 1) := by decide +kernel
set_option maxRecDepth 20000 in
theorem ggX1_removeCall_X1_liftCall : GoodIn wsX1_removeCall wsX1_liftCall := goodIn_r _ [8, 9, 10, 11, 2, 12, 13, 14, 15, 16, 17, 18, 19, 20, 7, 21, 22, 23, 24, 25, 26, 27, 28, 29, 30, 31, 32, 33, 34, 35, 36, 37, 38, 39, 40, 41, 42, 43, 44, 45, 46] (by decide +kernel) (by decide +kernel)
set_option maxRecDepth 20000 in
theorem gX1_removeCall_X1_liftCall : GoodIn wsX1_removeCall (wsV RX1 101 RX1 yX1_liftCall wsX1_liftCall) := goodIn_app (goodIn_of _ (by decide +kernel)) ggX1_removeCall_X1_liftCall
set_option maxRecDepth 20000 in
theorem ggX1_removeCall_X4_get : GoodIn wsX1_removeCall wsX4_get := goodIn_r _ [16, 17, 46] (by decide +kernel) (by decide +kernel)
set_option maxRecDepth 20000 in
theorem gX1_removeCall_X4_get : GoodIn wsX1_removeCall (wsV RX1 77 RX4 yX4_get wsX4_get) := goodIn_app (goodIn_of _ (by decide +kernel)) ggX1_removeCall_X4_get
set_option maxRecDepth 20000 in
theorem ggX1_removeCall_X4_set : GoodIn wsX1_removeCall wsX4_set := goodIn_r _ [29, 17, 46] (by decide +kernel) (by decide +kernel)
set_option maxRecDepth 20000 in
theorem gX1_removeCall_X4_set : GoodIn wsX1_removeCall (wsV RX1 97 RX4 yX4_set wsX4_set) := goodIn_app (goodIn_of _ (by decide +kernel)) ggX1_removeCall_X4_set
theorem dX1_removeCall_0 : decode cX1_removeCall 0 = .ok (.aload_n 0, 1) := by decide +kernel
theorem dX1_removeCall_1 : decode cX1_removeCall 1 = .ok (.iload_n 1, 1) := by decide +kernel
theorem dX1_removeCall_2 : decode cX1_removeCall 2 = .ok (.invokevirtual 101, 3) := by decide +kernel
theorem dX1_removeCall_5 : decode cX1_removeCall 5 = .ok (.aload_n 0, 1) := by decide +kernel
theorem dX1_removeCall_6 : decode cX1_removeCall 6 = .ok (.getfield 39, 3) := by decide +kernel
theorem dX1_removeCall_9 : decode cX1_removeCall 9 = .ok (.aload_n 0, 1) := by decide +kernel
theorem dX1_removeCall_10 : decode cX1_removeCall 10 = .ok (.getfield 33, 3) := by decide +kernel
theorem dX1_removeCall_13 : decode cX1_removeCall 13 = .ok (.iload_n 1, 1) := by decide +kernel
theorem dX1_removeCall_14 : decode cX1_removeCall 14 = .ok (.invokevirtual 77, 3) := by decide +kernel
theorem dX1_removeCall_17 : decode cX1_removeCall 17 = .ok (.bipush (-6), 2) := by decide +kernel
theorem dX1_removeCall_19 : decode cX1_removeCall 19 = .ok (.invokevirtual 97, 3) := by decide +kernel
theorem dX1_removeCall_22 : decode cX1_removeCall 22 = .ok (.aload_n 0, 1) := by decide +kernel
theorem dX1_removeCall_23 : decode cX1_removeCall 23 = .ok (.getfield 33, 3) := by decide +kernel
theorem dX1_removeCall_26 : decode cX1_removeCall 26 = .ok (.iload_n 1, 1) := by decide +kernel
theorem dX1_removeCall_27 : decode cX1_removeCall 27 = .ok (.bipush (-6), 2) := by decide +kernel
theorem dX1_removeCall_29 : decode cX1_removeCall 29 = .ok (.invokevirtual 97, 3) := by decide +kernel
theorem dX1_removeCall_32 : decode cX1_removeCall 32 = .ok (.aload_n 0, 1) := by decide +kernel
theorem dX1_removeCall_33 : decode cX1_removeCall 33 = .ok (.getfield 29, 3) := by decide +kernel
theorem dX1_removeCall_36 : decode cX1_removeCall 36 = .ok (.iload_n 1, 1) := by decide +kernel
theorem dX1_removeCall_37 : decode cX1_removeCall 37 = .ok (.bipush (-6), 2) := by decide +kernel
theorem dX1_removeCall_39 : decode cX1_removeCall 39 = .ok (.invokevirtual 97, 3) := by decide +kernel
theorem dX1_removeCall_42 : decode cX1_removeCall 42 = .ok (.return_, 1) := by decide +kernel
set_option maxRecDepth 20000 in
theorem ggX1_carryCall_X4_set : GoodIn wsX1_carryCall wsX4_set := goodIn_r _ [9, 10, 40] (by decide +kernel) (by decide +kernel)
set_option maxRecDepth 20000 in
theorem gX1_carryCall_X4_set : GoodIn wsX1_carryCall (wsV RX1 97 RX4 yX4_set wsX4_set) := goodIn_app (goodIn_of _ (by decide +kernel)) ggX1_carryCall_X4_set
set_option maxRecDepth 20000 in
theorem ggX1_carryCall_X1_boardOf : GoodIn wsX1_carryCall wsX1_boardOf := goodIn_r _ [15, 16, 24, 25, 26, 27, 28, 29, 30, 31, 32, 33, 34, 35, 36, 37, 38, 39] (by decide +kernel) (by decide +kernel)
set_option maxRecDepth 20000 in
theorem gX1_carryCall_X1_boardOf : GoodIn wsX1_carryCall (wsV RX1 104 RX1 yX1_boardOf wsX1_boardOf) := goodIn_app (goodIn_of _ (by decide +kernel)) ggX1_carryCall_X1_boardOf
set_option maxRecDepth 20000 in
theorem ggX1_carryCall_X5_link : GoodIn wsX1_carryCall wsX5_link := goodIn_r _ [19] (by decide +kernel) (by decide +kernel)
set_option maxRecDepth 20000 in
theorem gX1_carryCall_X5_link_n81 : GoodIn wsX1_carryCall (wsX5_link) := ggX1_carryCall_X5_link
set_option maxRecDepth 20000 in
theorem ggX1_carryCall_X4_get : GoodIn wsX1_carryCall wsX4_get := goodIn_r _ [23, 10, 40] (by decide +kernel) (by decide +kernel)
set_option maxRecDepth 20000 in
theorem gX1_carryCall_X4_get : GoodIn wsX1_carryCall (wsV RX1 77 RX4 yX4_get wsX4_get) := goodIn_app (goodIn_of _ (by decide +kernel)) ggX1_carryCall_X4_get
theorem dX1_carryCall_0 : decode cX1_carryCall 0 = .ok (.aload_n 0, 1) := by decide +kernel
theorem dX1_carryCall_1 : decode cX1_carryCall 1 = .ok (.getfield 36, 3) := by decide +kernel
theorem dX1_carryCall_4 : decode cX1_carryCall 4 = .ok (.iload_n 1, 1) := by decide +kernel
theorem dX1_carryCall_5 : decode cX1_carryCall 5 = .ok (.iload_n 2, 1) := by decide +kernel
theorem dX1_carryCall_6 : decode cX1_carryCall 6 = .ok (.invokevirtual 97, 3) := by decide +kernel
theorem dX1_carryCall_9 : decode cX1_carryCall 9 = .ok (.aload_n 0, 1) := by decide +kernel
theorem dX1_carryCall_10 : decode cX1_carryCall 10 = .ok (.getfield 42, 3) := by decide +kernel
theorem dX1_carryCall_13 : decode cX1_carryCall 13 = .ok (.aload_n 0, 1) := by decide +kernel
theorem dX1_carryCall_14 : decode cX1_carryCall 14 = .ok (.iload_n 1, 1) := by decide +kernel
theorem dX1_carryCall_15 : decode cX1_carryCall 15 = .ok (.invokevirtual 104, 3) := by decide +kernel
theorem dX1_carryCall_18 : decode cX1_carryCall 18 = .ok (.iload_n 2, 1) := by decide +kernel
theorem dX1_carryCall_19 : decode cX1_carryCall 19 = .ok (.invokestatic 81, 3) := by decide +kernel
theorem dX1_carryCall_22 : decode cX1_carryCall 22 = .ok (.iload_n 1, 1) := by decide +kernel
theorem dX1_carryCall_23 : decode cX1_carryCall 23 = .ok (.invokevirtual 97, 3) := by decide +kernel
theorem dX1_carryCall_26 : decode cX1_carryCall 26 = .ok (.aload_n 0, 1) := by decide +kernel
theorem dX1_carryCall_27 : decode cX1_carryCall 27 = .ok (.getfield 45, 3) := by decide +kernel
theorem dX1_carryCall_30 : decode cX1_carryCall 30 = .ok (.aload_n 0, 1) := by decide +kernel
theorem dX1_carryCall_31 : decode cX1_carryCall 31 = .ok (.aload_n 0, 1) := by decide +kernel
theorem dX1_carryCall_32 : decode cX1_carryCall 32 = .ok (.getfield 33, 3) := by decide +kernel
theorem dX1_carryCall_35 : decode cX1_carryCall 35 = .ok (.iload_n 1, 1) := by decide +kernel
theorem dX1_carryCall_36 : decode cX1_carryCall 36 = .ok (.invokevirtual 77, 3) := by decide +kernel
theorem dX1_carryCall_39 : decode cX1_carryCall 39 = .ok (.invokevirtual 104, 3) := by decide +kernel
theorem dX1_carryCall_42 : decode cX1_carryCall 42 = .ok (.iload_n 2, 1) := by decide +kernel
theorem dX1_carryCall_43 : decode cX1_carryCall 43 = .ok (.invokestatic 81, 3) := by decide +kernel
theorem dX1_carryCall_46 : decode cX1_carryCall 46 = .ok (.iload_n 1, 1) := by decide +kernel
theorem dX1_carryCall_47 : decode cX1_carryCall 47 = .ok (.invokevirtual 97, 3) := by decide +kernel
theorem dX1_carryCall_50 : decode cX1_carryCall 50 = .ok (.return_, 1) := by decide +kernel
set_option maxRecDepth 20000 in
theorem ggX1_liftCall_X4_get : GoodIn wsX1_liftCall wsX4_get := goodIn_r _ [9, 10, 40] (by decide +kernel) (by decide +kernel)
set_option maxRecDepth 20000 in
theorem gX1_liftCall_X4_get : GoodIn wsX1_liftCall (wsV RX1 77 RX4 yX4_get wsX4_get) := goodIn_app (goodIn_of _ (by decide +kernel)) ggX1_liftCall_X4_get
set_option maxRecDepth 20000 in
theorem ggX1_liftCall_X1_boardOf : GoodIn wsX1_liftCall wsX1_boardOf := goodIn_r _ [15, 16, 24, 25, 26, 27, 28, 29, 30, 31, 32, 33, 34, 35, 36, 37, 38, 39] (by decide +kernel) (by decide +kernel)
set_option maxRecDepth 20000 in
theorem gX1_liftCall_X1_boardOf : GoodIn wsX1_liftCall (wsV RX1 104 RX1 yX1_boardOf wsX1_boardOf) := goodIn_app (goodIn_of _ (by decide +kernel)) ggX1_liftCall_X1_boardOf
set_option maxRecDepth 20000 in
theorem ggX1_liftCall_X5_link : GoodIn wsX1_liftCall wsX5_link := goodIn_r _ [19] (by decide +kernel) (by decide +kernel)
set_option maxRecDepth 20000 in
theorem gX1_liftCall_X5_link_n81 : GoodIn wsX1_liftCall (wsX5_link) := ggX1_liftCall_X5_link
set_option maxRecDepth 20000 in
theorem ggX1_liftCall_X4_set : GoodIn wsX1_liftCall wsX4_set := goodIn_r _ [23, 10, 40] (by decide +kernel) (by decide +kernel)
set_option maxRecDepth 20000 in
theorem gX1_liftCall_X4_set : GoodIn wsX1_liftCall (wsV RX1 97 RX4 yX4_set wsX4_set) := goodIn_app (goodIn_of _ (by decide +kernel)) ggX1_liftCall_X4_set
theorem dX1_liftCall_0 : decode cX1_liftCall 0 = .ok (.aload_n 0, 1) := by decide +kernel
theorem dX1_liftCall_1 : decode cX1_liftCall 1 = .ok (.getfield 36, 3) := by decide +kernel
theorem dX1_liftCall_4 : decode cX1_liftCall 4 = .ok (.iload_n 1, 1) := by decide +kernel
theorem dX1_liftCall_5 : decode cX1_liftCall 5 = .ok (.invokevirtual 77, 3) := by decide +kernel
theorem dX1_liftCall_8 : decode cX1_liftCall 8 = .ok (.istore_n 2, 1) := by decide +kernel
theorem dX1_liftCall_9 : decode cX1_liftCall 9 = .ok (.iload_n 2, 1) := by decide +kernel
theorem dX1_liftCall_10 : decode cX1_liftCall 10 = .ok (.ifCond .lt 56, 3) := by decide +kernel
theorem dX1_liftCall_13 : decode cX1_liftCall 13 = .ok (.aload_n 0, 1) := by decide +kernel
theorem dX1_liftCall_14 : decode cX1_liftCall 14 = .ok (.getfield 42, 3) := by decide +kernel
theorem dX1_liftCall_17 : decode cX1_liftCall 17 = .ok (.aload_n 0, 1) := by decide +kernel
theorem dX1_liftCall_18 : decode cX1_liftCall 18 = .ok (.iload_n 1, 1) := by decide +kernel
theorem dX1_liftCall_19 : decode cX1_liftCall 19 = .ok (.invokevirtual 104, 3) := by decide +kernel
theorem dX1_liftCall_22 : decode cX1_liftCall 22 = .ok (.iload_n 2, 1) := by decide +kernel
theorem dX1_liftCall_23 : decode cX1_liftCall 23 = .ok (.invokestatic 81, 3) := by decide +kernel
theorem dX1_liftCall_26 : decode cX1_liftCall 26 = .ok (.bipush (-6), 2) := by decide +kernel
theorem dX1_liftCall_28 : decode cX1_liftCall 28 = .ok (.invokevirtual 97, 3) := by decide +kernel
theorem dX1_liftCall_31 : decode cX1_liftCall 31 = .ok (.aload_n 0, 1) := by decide +kernel
theorem dX1_liftCall_32 : decode cX1_liftCall 32 = .ok (.getfield 45, 3) := by decide +kernel
theorem dX1_liftCall_35 : decode cX1_liftCall 35 = .ok (.aload_n 0, 1) := by decide +kernel
theorem dX1_liftCall_36 : decode cX1_liftCall 36 = .ok (.aload_n 0, 1) := by decide +kernel
theorem dX1_liftCall_37 : decode cX1_liftCall 37 = .ok (.getfield 33, 3) := by decide +kernel
theorem dX1_liftCall_40 : decode cX1_liftCall 40 = .ok (.iload_n 1, 1) := by decide +kernel
theorem dX1_liftCall_41 : decode cX1_liftCall 41 = .ok (.invokevirtual 77, 3) := by decide +kernel
theorem dX1_liftCall_44 : decode cX1_liftCall 44 = .ok (.invokevirtual 104, 3) := by decide +kernel
theorem dX1_liftCall_47 : decode cX1_liftCall 47 = .ok (.iload_n 2, 1) := by decide +kernel
theorem dX1_liftCall_48 : decode cX1_liftCall 48 = .ok (.invokestatic 81, 3) := by decide +kernel
theorem dX1_liftCall_51 : decode cX1_liftCall 51 = .ok (.bipush (-6), 2) := by decide +kernel
theorem dX1_liftCall_53 : decode cX1_liftCall 53 = .ok (.invokevirtual 97, 3) := by decide +kernel
theorem dX1_liftCall_56 : decode cX1_liftCall 56 = .ok (.aload_n 0, 1) := by decide +kernel
theorem dX1_liftCall_57 : decode cX1_liftCall 57 = .ok (.getfield 36, 3) := by decide +kernel
theorem dX1_liftCall_60 : decode cX1_liftCall 60 = .ok (.iload_n 1, 1) := by decide +kernel
theorem dX1_liftCall_61 : decode cX1_liftCall 61 = .ok (.bipush (-6), 2) := by decide +kernel
theorem dX1_liftCall_63 : decode cX1_liftCall 63 = .ok (.invokevirtual 97, 3) := by decide +kernel
theorem dX1_liftCall_66 : decode cX1_liftCall 66 = .ok (.return_, 1) := by decide +kernel
set_option maxRecDepth 20000 in
theorem ggX1_firstLifted_X1_isInletBusy : GoodIn wsX1_firstLifted wsX1_isInletBusy := goodIn_r _ [7, 2, 8, 9, 10, 11, 12, 13, 14, 15, 16, 17, 18, 19, 20, 21, 22, 23, 24, 25, 26, 27, 28, 29, 30] (by decide +kernel) (by decide +kernel)
set_option maxRecDepth 20000 in
theorem gX1_firstLifted_X1_isInletBusy : GoodIn wsX1_firstLifted (wsV RX1 85 RX1 yX1_isInletBusy wsX1_isInletBusy) := goodIn_app (goodIn_of _ (by decide +kernel)) ggX1_firstLifted_X1_isInletBusy
set_option maxRecDepth 20000 in
theorem ggX1_firstLifted_X4_get : GoodIn wsX1_firstLifted wsX4_get := goodIn_r _ [12, 13, 30] (by decide +kernel) (by decide +kernel)
set_option maxRecDepth 20000 in
theorem gX1_firstLifted_X4_get : GoodIn wsX1_firstLifted (wsV RX1 77 RX4 yX4_get wsX4_get) := goodIn_app (goodIn_of _ (by decide +kernel)) ggX1_firstLifted_X4_get
theorem dX1_firstLifted_0 : decode cX1_firstLifted 0 = .ok (.bipush (-6), 2) := by decide +kernel
theorem dX1_firstLifted_2 : decode cX1_firstLifted 2 = .ok (.istore_n 1, 1) := by decide +kernel
theorem dX1_firstLifted_3 : decode cX1_firstLifted 3 = .ok (.iconst 0, 1) := by decide +kernel
theorem dX1_firstLifted_4 : decode cX1_firstLifted 4 = .ok (.istore_n 2, 1) := by decide +kernel
theorem dX1_firstLifted_5 : decode cX1_firstLifted 5 = .ok (.iload_n 2, 1) := by decide +kernel
theorem dX1_firstLifted_6 : decode cX1_firstLifted 6 = .ok (.bipush 48, 2) := by decide +kernel
theorem dX1_firstLifted_8 : decode cX1_firstLifted 8 = .ok (.if_icmp .ge 53, 3) := by decide +kernel
theorem dX1_firstLifted_11 : decode cX1_firstLifted 11 = .ok (.aload_n 0, 1) := by decide +kernel
theorem dX1_firstLifted_12 : decode cX1_firstLifted 12 = .ok (.iload_n 2, 1) := by decide +kernel
theorem dX1_firstLifted_13 : decode cX1_firstLifted 13 = .ok (.invokevirtual 85, 3) := by decide +kernel
theorem dX1_firstLifted_16 : decode cX1_firstLifted 16 = .ok (.ifCond .eq 39, 3) := by decide +kernel
theorem dX1_firstLifted_19 : decode cX1_firstLifted 19 = .ok (.aload_n 0, 1) := by decide +kernel
theorem dX1_firstLifted_20 : decode cX1_firstLifted 20 = .ok (.getfield 36, 3) := by decide +kernel
theorem dX1_firstLifted_23 : decode cX1_firstLifted 23 = .ok (.iload_n 2, 1) := by decide +kernel
theorem dX1_firstLifted_24 : decode cX1_firstLifted 24 = .ok (.invokevirtual 77, 3) := by decide +kernel
theorem dX1_firstLifted_27 : decode cX1_firstLifted 27 = .ok (.ifCond .ge 28, 3) := by decide +kernel
theorem dX1_firstLifted_30 : decode cX1_firstLifted 30 = .ok (.iload_n 1, 1) := by decide +kernel
theorem dX1_firstLifted_31 : decode cX1_firstLifted 31 = .ok (.ifCond .lt 22, 3) := by decide +kernel
theorem dX1_firstLifted_34 : decode cX1_firstLifted 34 = .ok (.aload_n 0, 1) := by decide +kernel
theorem dX1_firstLifted_35 : decode cX1_firstLifted 35 = .ok (.getfield 29, 3) := by decide +kernel
theorem dX1_firstLifted_38 : decode cX1_firstLifted 38 = .ok (.iload_n 2, 1) := by decide +kernel
theorem dX1_firstLifted_39 : decode cX1_firstLifted 39 = .ok (.invokevirtual 77, 3) := by decide +kernel
theorem dX1_firstLifted_42 : decode cX1_firstLifted 42 = .ok (.aload_n 0, 1) := by decide +kernel
theorem dX1_firstLifted_43 : decode cX1_firstLifted 43 = .ok (.getfield 29, 3) := by decide +kernel
theorem dX1_firstLifted_46 : decode cX1_firstLifted 46 = .ok (.iload_n 1, 1) := by decide +kernel
theorem dX1_firstLifted_47 : decode cX1_firstLifted 47 = .ok (.invokevirtual 77, 3) := by decide +kernel
theorem dX1_firstLifted_50 : decode cX1_firstLifted 50 = .ok (.if_icmp .ge 5, 3) := by decide +kernel
theorem dX1_firstLifted_53 : decode cX1_firstLifted 53 = .ok (.iload_n 2, 1) := by decide +kernel
theorem dX1_firstLifted_54 : decode cX1_firstLifted 54 = .ok (.istore_n 1, 1) := by decide +kernel
theorem dX1_firstLifted_55 : decode cX1_firstLifted 55 = .ok (.iinc 2 1, 3) := by decide +kernel
theorem dX1_firstLifted_58 : decode cX1_firstLifted 58 = .ok (.goto (-53), 3) := by decide +kernel
theorem dX1_firstLifted_61 : decode cX1_firstLifted 61 = .ok (.iload_n 1, 1) := by decide +kernel
theorem dX1_firstLifted_62 : decode cX1_firstLifted 62 = .ok (.ireturn, 1) := by decide +kernel
end
section
set_option maxRecDepth 20000 in
theorem ggX2_init_X4_init : GoodIn wsX2_init wsX4_init := goodIn_r _ [10, 11, 2, 3, 12, 13, 14, 15, 16, 17, 18, 19, 20, 21, 22] (by decide +kernel) (by decide +kernel)
set_option maxRecDepth 20000 in
theorem gX2_init_X4_init : GoodIn wsX2_init (wsX4_init) := ggX2_init_X4_init
theorem dX2_init_0 : decode cX2_init 0 = .ok (.aload_n 0, 1) := by decide +kernel
theorem dX2_init_1 : decode cX2_init 1 = .ok (.invokespecial 3, 3) := by decide +kernel
theorem dX2_init_4 : decode cX2_init 4 = .ok (.aload_n 0, 1) := by decide +kernel
theorem dX2_init_5 : decode cX2_init 5 = .ok (.new 9, 3) := by decide +kernel
theorem dX2_init_8 : decode cX2_init 8 = .ok (.dup, 1) := by decide +kernel
theorem dX2_init_9 : decode cX2_init 9 = .ok (.bipush 60, 2) := by decide +kernel
theorem dX2_init_11 : decode cX2_init 11 = .ok (.invokespecial 11, 3) := by decide +kernel
theorem dX2_init_14 : decode cX2_init 14 = .ok (.putfield 14, 3) := by decide +kernel
theorem dX2_init_17 : decode cX2_init 17 = .ok (.return_, 1) := by decide +kernel
set_option maxRecDepth 20000 in
theorem ggX2_append_X4_set : GoodIn wsX2_append wsX4_set := goodIn_r _ [7, 8, 15] (by decide +kernel) (by decide +kernel)
set_option maxRecDepth 20000 in
theorem gX2_append_X4_set : GoodIn wsX2_append (wsV RX2 24 RX4 yX4_set wsX4_set) := goodIn_app (goodIn_of _ (by decide +kernel)) ggX2_append_X4_set
theorem dX2_append_0 : decode cX2_append 0 = .ok (.aload_n 0, 1) := by decide +kernel
theorem dX2_append_1 : decode cX2_append 1 = .ok (.getfield 20, 3) := by decide +kernel
theorem dX2_append_4 : decode cX2_append 4 = .ok (.bipush 60, 2) := by decide +kernel
theorem dX2_append_6 : decode cX2_append 6 = .ok (.if_icmp .lt 6, 3) := by decide +kernel
theorem dX2_append_9 : decode cX2_append 9 = .ok (.bipush (-5), 2) := by decide +kernel
theorem dX2_append_11 : decode cX2_append 11 = .ok (.ireturn, 1) := by decide +kernel
theorem dX2_append_12 : decode cX2_append 12 = .ok (.aload_n 0, 1) := by decide +kernel
theorem dX2_append_13 : decode cX2_append 13 = .ok (.getfield 14, 3) := by decide +kernel
theorem dX2_append_16 : decode cX2_append 16 = .ok (.aload_n 0, 1) := by decide +kernel
theorem dX2_append_17 : decode cX2_append 17 = .ok (.getfield 20, 3) := by decide +kernel
theorem dX2_append_20 : decode cX2_append 20 = .ok (.iload_n 1, 1) := by decide +kernel
theorem dX2_append_21 : decode cX2_append 21 = .ok (.invokevirtual 24, 3) := by decide +kernel
theorem dX2_append_24 : decode cX2_append 24 = .ok (.aload_n 0, 1) := by decide +kernel
theorem dX2_append_25 : decode cX2_append 25 = .ok (.dup, 1) := by decide +kernel
theorem dX2_append_26 : decode cX2_append 26 = .ok (.getfield 20, 3) := by decide +kernel
theorem dX2_append_29 : decode cX2_append 29 = .ok (.iconst 1, 1) := by decide +kernel
theorem dX2_append_30 : decode cX2_append 30 = .ok (.iadd, 1) := by decide +kernel
theorem dX2_append_31 : decode cX2_append 31 = .ok (.putfield 20, 3) := by decide +kernel
theorem dX2_append_34 : decode cX2_append 34 = .ok (.aload_n 0, 1) := by decide +kernel
theorem dX2_append_35 : decode cX2_append 35 = .ok (.getfield 20, 3) := by decide +kernel
theorem dX2_append_38 : decode cX2_append 38 = .ok (.ireturn, 1) := by decide +kernel
theorem dX2_rewind_0 : decode cX2_rewind 0 = .ok (.aload_n 0, 1) := by decide +kernel
theorem dX2_rewind_1 : decode cX2_rewind 1 = .ok (.iconst 0, 1) := by decide +kernel
theorem dX2_rewind_2 : decode cX2_rewind 2 = .ok (.putfield 28, 3) := by decide +kernel
theorem dX2_rewind_5 : decode cX2_rewind 5 = .ok (.return_, 1) := by decide +kernel
set_option maxRecDepth 20000 in
theorem ggX2_findFault_X2_rewind : GoodIn wsX2_findFault wsX2_rewind := goodIn_r _ [7, 1, 38, 39, 40, 41, 42, 43] (by decide +kernel) (by decide +kernel)
set_option maxRecDepth 20000 in
theorem gX2_findFault_X2_rewind : GoodIn wsX2_findFault (wsV RX2 31 RX2 yX2_rewind wsX2_rewind) := goodIn_app (goodIn_of _ (by decide +kernel)) ggX2_findFault_X2_rewind
set_option maxRecDepth 20000 in
theorem ggX2_findFault_X2_readOrder : GoodIn wsX2_findFault wsX2_readOrder := goodIn_r _ [11, 12, 1, 13, 14, 15, 16, 17, 6, 18, 2, 19, 20, 21, 22, 23, 24, 25, 26, 27, 28, 29, 30, 31, 32, 33, 34, 35, 36, 37, 38, 39, 40, 41, 42, 43, 44] (by decide +kernel) (by decide +kernel)
set_option maxRecDepth 20000 in
theorem gX2_findFault_X2_readOrder : GoodIn wsX2_findFault (wsV RX2 34 RX2 yX2_readOrder wsX2_readOrder) := goodIn_app (goodIn_of _ (by decide +kernel)) ggX2_findFault_X2_readOrder
set_option maxRecDepth 20000 in
theorem ggX2_findFault_X2_skip : GoodIn wsX2_findFault wsX2_skip := goodIn_r _ [37, 1, 15, 16, 17, 6, 18, 2, 19, 20, 21, 22, 23, 24, 25, 38, 39, 40, 41, 42, 43, 44] (by decide +kernel) (by decide +kernel)
set_option maxRecDepth 20000 in
theorem gX2_findFault_X2_skip : GoodIn wsX2_findFault (wsV RX2 38 RX2 yX2_skip wsX2_skip) := goodIn_app (goodIn_of _ (by decide +kernel)) ggX2_findFault_X2_skip
theorem dX2_findFault_0 : decode cX2_findFault 0 = .ok (.aload_n 0, 1) := by decide +kernel
theorem dX2_findFault_1 : decode cX2_findFault 1 = .ok (.invokevirtual 31, 3) := by decide +kernel
theorem dX2_findFault_4 : decode cX2_findFault 4 = .ok (.iconst 0, 1) := by decide +kernel
theorem dX2_findFault_5 : decode cX2_findFault 5 = .ok (.istore_n 1, 1) := by decide +kernel
theorem dX2_findFault_6 : decode cX2_findFault 6 = .ok (.iload_n 1, 1) := by decide +kernel
theorem dX2_findFault_7 : decode cX2_findFault 7 = .ok (.bipush 60, 2) := by decide +kernel
theorem dX2_findFault_9 : decode cX2_findFault 9 = .ok (.if_icmp .ge 44, 3) := by decide +kernel
theorem dX2_findFault_12 : decode cX2_findFault 12 = .ok (.aload_n 0, 1) := by decide +kernel
theorem dX2_findFault_13 : decode cX2_findFault 13 = .ok (.invokevirtual 34, 3) := by decide +kernel
theorem dX2_findFault_16 : decode cX2_findFault 16 = .ok (.ifCond .eq 37, 3) := by decide +kernel
theorem dX2_findFault_19 : decode cX2_findFault 19 = .ok (.aload_n 0, 1) := by decide +kernel
theorem dX2_findFault_20 : decode cX2_findFault 20 = .ok (.getfield 28, 3) := by decide +kernel
theorem dX2_findFault_23 : decode cX2_findFault 23 = .ok (.aload_n 0, 1) := by decide +kernel
theorem dX2_findFault_24 : decode cX2_findFault 24 = .ok (.getfield 20, 3) := by decide +kernel
theorem dX2_findFault_27 : decode cX2_findFault 27 = .ok (.if_icmp .lt 6, 3) := by decide +kernel
theorem dX2_findFault_30 : decode cX2_findFault 30 = .ok (.bipush (-6), 2) := by decide +kernel
theorem dX2_findFault_32 : decode cX2_findFault 32 = .ok (.ireturn, 1) := by decide +kernel
theorem dX2_findFault_33 : decode cX2_findFault 33 = .ok (.aload_n 0, 1) := by decide +kernel
theorem dX2_findFault_34 : decode cX2_findFault 34 = .ok (.bipush 59, 2) := by decide +kernel
theorem dX2_findFault_36 : decode cX2_findFault 36 = .ok (.invokevirtual 38, 3) := by decide +kernel
theorem dX2_findFault_39 : decode cX2_findFault 39 = .ok (.ifCond .ne 8, 3) := by decide +kernel
theorem dX2_findFault_42 : decode cX2_findFault 42 = .ok (.aload_n 0, 1) := by decide +kernel
theorem dX2_findFault_43 : decode cX2_findFault 43 = .ok (.getfield 28, 3) := by decide +kernel
theorem dX2_findFault_46 : decode cX2_findFault 46 = .ok (.ireturn, 1) := by decide +kernel
theorem dX2_findFault_47 : decode cX2_findFault 47 = .ok (.iinc 1 1, 3) := by decide +kernel
theorem dX2_findFault_50 : decode cX2_findFault 50 = .ok (.goto (-44), 3) := by decide +kernel
theorem dX2_findFault_53 : decode cX2_findFault 53 = .ok (.aload_n 0, 1) := by decide +kernel
theorem dX2_findFault_54 : decode cX2_findFault 54 = .ok (.getfield 28, 3) := by decide +kernel
theorem dX2_findFault_57 : decode cX2_findFault 57 = .ok (.ireturn, 1) := by decide +kernel
set_option maxRecDepth 20000 in
theorem ggX2_readOrder_X2_sign : GoodIn wsX2_readOrder wsX2_sign := goodIn_r _ [9, 2, 10, 11, 12, 13, 14, 15, 16, 17, 30, 31, 32, 33, 34, 35, 36] (by decide +kernel) (by decide +kernel)
set_option maxRecDepth 20000 in
theorem gX2_readOrder_X2_sign : GoodIn wsX2_readOrder (wsV RX2 42 RX2 yX2_sign wsX2_sign) := goodIn_app (goodIn_of _ (by decide +kernel)) ggX2_readOrder_X2_sign
set_option maxRecDepth 20000 in
theorem ggX2_readOrder_X2_readNumber : GoodIn wsX2_readOrder wsX2_readNumber := goodIn_r _ [21, 22, 23, 24, 25, 2, 5, 6, 7, 8, 9, 10, 11, 12, 13, 14, 15, 16, 17, 30, 31, 32, 33, 34, 35, 36] (by decide +kernel) (by decide +kernel)
set_option maxRecDepth 20000 in
theorem gX2_readOrder_X2_readNumber : GoodIn wsX2_readOrder (wsV RX2 49 RX2 yX2_readNumber wsX2_readNumber) := goodIn_app (goodIn_of _ (by decide +kernel)) ggX2_readOrder_X2_readNumber
set_option maxRecDepth 20000 in
theorem ggX2_readOrder_X2_skip : GoodIn wsX2_readOrder wsX2_skip := goodIn_r _ [29, 2, 5, 6, 7, 8, 9, 10, 11, 12, 13, 14, 15, 16, 17, 30, 31, 32, 33, 34, 35, 36] (by decide +kernel) (by decide +kernel)
set_option maxRecDepth 20000 in
theorem gX2_readOrder_X2_skip : GoodIn wsX2_readOrder (wsV RX2 38 RX2 yX2_skip wsX2_skip) := goodIn_app (goodIn_of _ (by decide +kernel)) ggX2_readOrder_X2_skip
theorem dX2_readOrder_0 : decode cX2_readOrder 0 = .ok (.aload_n 0, 1) := by decide +kernel
theorem dX2_readOrder_1 : decode cX2_readOrder 1 = .ok (.aload_n 0, 1) := by decide +kernel
theorem dX2_readOrder_2 : decode cX2_readOrder 2 = .ok (.invokevirtual 42, 3) := by decide +kernel
theorem dX2_readOrder_5 : decode cX2_readOrder 5 = .ok (.putfield 46, 3) := by decide +kernel
theorem dX2_readOrder_8 : decode cX2_readOrder 8 = .ok (.aload_n 0, 1) := by decide +kernel
theorem dX2_readOrder_9 : decode cX2_readOrder 9 = .ok (.getfield 46, 3) := by decide +kernel
theorem dX2_readOrder_12 : decode cX2_readOrder 12 = .ok (.tableswitch 211 99 112 #[72, 133, 211, 211, 211, 211, 166, 211, 211, 211, 211, 211, 166, 199], 72) := by decide +kernel
theorem dX2_readOrder_84 : decode cX2_readOrder 84 = .ok (.aload_n 0, 1) := by decide +kernel
theorem dX2_readOrder_85 : decode cX2_readOrder 85 = .ok (.dup, 1) := by decide +kernel
theorem dX2_readOrder_86 : decode cX2_readOrder 86 = .ok (.getfield 28, 3) := by decide +kernel
theorem dX2_readOrder_89 : decode cX2_readOrder 89 = .ok (.iconst 1, 1) := by decide +kernel
theorem dX2_readOrder_90 : decode cX2_readOrder 90 = .ok (.iadd, 1) := by decide +kernel
theorem dX2_readOrder_91 : decode cX2_readOrder 91 = .ok (.putfield 28, 3) := by decide +kernel
theorem dX2_readOrder_94 : decode cX2_readOrder 94 = .ok (.aload_n 0, 1) := by decide +kernel
theorem dX2_readOrder_95 : decode cX2_readOrder 95 = .ok (.aload_n 0, 1) := by decide +kernel
theorem dX2_readOrder_96 : decode cX2_readOrder 96 = .ok (.bipush 47, 2) := by decide +kernel
theorem dX2_readOrder_98 : decode cX2_readOrder 98 = .ok (.invokevirtual 49, 3) := by decide +kernel
theorem dX2_readOrder_101 : decode cX2_readOrder 101 = .ok (.putfield 53, 3) := by decide +kernel
theorem dX2_readOrder_104 : decode cX2_readOrder 104 = .ok (.aload_n 0, 1) := by decide +kernel
theorem dX2_readOrder_105 : decode cX2_readOrder 105 = .ok (.getfield 53, 3) := by decide +kernel
theorem dX2_readOrder_108 : decode cX2_readOrder 108 = .ok (.ifCond .lt 12, 3) := by decide +kernel
theorem dX2_readOrder_111 : decode cX2_readOrder 111 = .ok (.aload_n 0, 1) := by decide +kernel
theorem dX2_readOrder_112 : decode cX2_readOrder 112 = .ok (.bipush 45, 2) := by decide +kernel
theorem dX2_readOrder_114 : decode cX2_readOrder 114 = .ok (.invokevirtual 38, 3) := by decide +kernel
theorem dX2_readOrder_117 : decode cX2_readOrder 117 = .ok (.ifCond .ne 5, 3) := by decide +kernel
theorem dX2_readOrder_120 : decode cX2_readOrder 120 = .ok (.iconst 0, 1) := by decide +kernel
theorem dX2_readOrder_121 : decode cX2_readOrder 121 = .ok (.ireturn, 1) := by decide +kernel
theorem dX2_readOrder_122 : decode cX2_readOrder 122 = .ok (.aload_n 0, 1) := by decide +kernel
theorem dX2_readOrder_123 : decode cX2_readOrder 123 = .ok (.aload_n 0, 1) := by decide +kernel
theorem dX2_readOrder_124 : decode cX2_readOrder 124 = .ok (.bipush 47, 2) := by decide +kernel
theorem dX2_readOrder_126 : decode cX2_readOrder 126 = .ok (.invokevirtual 49, 3) := by decide +kernel
theorem dX2_readOrder_129 : decode cX2_readOrder 129 = .ok (.putfield 56, 3) := by decide +kernel
theorem dX2_readOrder_132 : decode cX2_readOrder 132 = .ok (.aload_n 0, 1) := by decide +kernel
theorem dX2_readOrder_133 : decode cX2_readOrder 133 = .ok (.getfield 56, 3) := by decide +kernel
theorem dX2_readOrder_136 : decode cX2_readOrder 136 = .ok (.ifCond .lt 7, 3) := by decide +kernel
theorem dX2_readOrder_139 : decode cX2_readOrder 139 = .ok (.iconst 1, 1) := by decide +kernel
theorem dX2_readOrder_140 : decode cX2_readOrder 140 = .ok (.goto 4, 3) := by decide +kernel
theorem dX2_readOrder_143 : decode cX2_readOrder 143 = .ok (.iconst 0, 1) := by decide +kernel
theorem dX2_readOrder_144 : decode cX2_readOrder 144 = .ok (.ireturn, 1) := by decide +kernel
theorem dX2_readOrder_145 : decode cX2_readOrder 145 = .ok (.aload_n 0, 1) := by decide +kernel
theorem dX2_readOrder_146 : decode cX2_readOrder 146 = .ok (.dup, 1) := by decide +kernel
theorem dX2_readOrder_147 : decode cX2_readOrder 147 = .ok (.getfield 28, 3) := by decide +kernel
theorem dX2_readOrder_150 : decode cX2_readOrder 150 = .ok (.iconst 1, 1) := by decide +kernel
theorem dX2_readOrder_151 : decode cX2_readOrder 151 = .ok (.iadd, 1) := by decide +kernel
theorem dX2_readOrder_152 : decode cX2_readOrder 152 = .ok (.putfield 28, 3) := by decide +kernel
theorem dX2_readOrder_155 : decode cX2_readOrder 155 = .ok (.aload_n 0, 1) := by decide +kernel
theorem dX2_readOrder_156 : decode cX2_readOrder 156 = .ok (.aload_n 0, 1) := by decide +kernel
theorem dX2_readOrder_157 : decode cX2_readOrder 157 = .ok (.bipush 47, 2) := by decide +kernel
theorem dX2_readOrder_159 : decode cX2_readOrder 159 = .ok (.invokevirtual 49, 3) := by decide +kernel
theorem dX2_readOrder_162 : decode cX2_readOrder 162 = .ok (.putfield 53, 3) := by decide +kernel
theorem dX2_readOrder_165 : decode cX2_readOrder 165 = .ok (.aload_n 0, 1) := by decide +kernel
theorem dX2_readOrder_166 : decode cX2_readOrder 166 = .ok (.getfield 53, 3) := by decide +kernel
theorem dX2_readOrder_169 : decode cX2_readOrder 169 = .ok (.ifCond .lt 7, 3) := by decide +kernel
theorem dX2_readOrder_172 : decode cX2_readOrder 172 = .ok (.iconst 1, 1) := by decide +kernel
theorem dX2_readOrder_173 : decode cX2_readOrder 173 = .ok (.goto 4, 3) := by decide +kernel
theorem dX2_readOrder_176 : decode cX2_readOrder 176 = .ok (.iconst 0, 1) := by decide +kernel
theorem dX2_readOrder_177 : decode cX2_readOrder 177 = .ok (.ireturn, 1) := by decide +kernel
theorem dX2_readOrder_178 : decode cX2_readOrder 178 = .ok (.aload_n 0, 1) := by decide +kernel
theorem dX2_readOrder_179 : decode cX2_readOrder 179 = .ok (.dup, 1) := by decide +kernel
theorem dX2_readOrder_180 : decode cX2_readOrder 180 = .ok (.getfield 28, 3) := by decide +kernel
theorem dX2_readOrder_183 : decode cX2_readOrder 183 = .ok (.iconst 1, 1) := by decide +kernel
theorem dX2_readOrder_184 : decode cX2_readOrder 184 = .ok (.iadd, 1) := by decide +kernel
theorem dX2_readOrder_185 : decode cX2_readOrder 185 = .ok (.putfield 28, 3) := by decide +kernel
theorem dX2_readOrder_188 : decode cX2_readOrder 188 = .ok (.aload_n 0, 1) := by decide +kernel
theorem dX2_readOrder_189 : decode cX2_readOrder 189 = .ok (.aload_n 0, 1) := by decide +kernel
theorem dX2_readOrder_190 : decode cX2_readOrder 190 = .ok (.bipush 7, 2) := by decide +kernel
theorem dX2_readOrder_192 : decode cX2_readOrder 192 = .ok (.invokevirtual 49, 3) := by decide +kernel
theorem dX2_readOrder_195 : decode cX2_readOrder 195 = .ok (.putfield 53, 3) := by decide +kernel
theorem dX2_readOrder_198 : decode cX2_readOrder 198 = .ok (.aload_n 0, 1) := by decide +kernel
theorem dX2_readOrder_199 : decode cX2_readOrder 199 = .ok (.getfield 53, 3) := by decide +kernel
theorem dX2_readOrder_202 : decode cX2_readOrder 202 = .ok (.ifCond .lt 7, 3) := by decide +kernel
theorem dX2_readOrder_205 : decode cX2_readOrder 205 = .ok (.iconst 1, 1) := by decide +kernel
theorem dX2_readOrder_206 : decode cX2_readOrder 206 = .ok (.goto 4, 3) := by decide +kernel
theorem dX2_readOrder_209 : decode cX2_readOrder 209 = .ok (.iconst 0, 1) := by decide +kernel
theorem dX2_readOrder_210 : decode cX2_readOrder 210 = .ok (.ireturn, 1) := by decide +kernel
theorem dX2_readOrder_211 : decode cX2_readOrder 211 = .ok (.aload_n 0, 1) := by decide +kernel
theorem dX2_readOrder_212 : decode cX2_readOrder 212 = .ok (.dup, 1) := by decide +kernel
theorem dX2_readOrder_213 : decode cX2_readOrder 213 = .ok (.getfield 28, 3) := by decide +kernel
theorem dX2_readOrder_216 : decode cX2_readOrder 216 = .ok (.iconst 1, 1) := by decide +kernel
theorem dX2_readOrder_217 : decode cX2_readOrder 217 = .ok (.iadd, 1) := by decide +kernel
theorem dX2_readOrder_218 : decode cX2_readOrder 218 = .ok (.putfield 28, 3) := by decide +kernel
theorem dX2_readOrder_221 : decode cX2_readOrder 221 = .ok (.iconst 1, 1) := by decide +kernel
theorem dX2_readOrder_222 : decode cX2_readOrder 222 = .ok (.ireturn, 1) := by decide +kernel
theorem dX2_readOrder_223 : decode cX2_readOrder 223 = .ok (.iconst 0, 1) := by decide +kernel
theorem dX2_readOrder_224 : decode cX2_readOrder 224 = .ok (.ireturn, 1) := by decide +kernel
set_option maxRecDepth 20000 in
theorem ggX2_skip_X2_sign : GoodIn wsX2_skip wsX2_sign := goodIn_r _ [6, 1, 7, 8, 9, 10, 11, 12, 13, 14, 15, 16, 17, 18, 19, 20, 21] (by decide +kernel) (by decide +kernel)
set_option maxRecDepth 20000 in
theorem gX2_skip_X2_sign : GoodIn wsX2_skip (wsV RX2 42 RX2 yX2_sign wsX2_sign) := goodIn_app (goodIn_of _ (by decide +kernel)) ggX2_skip_X2_sign
theorem dX2_skip_0 : decode cX2_skip 0 = .ok (.aload_n 0, 1) := by decide +kernel
theorem dX2_skip_1 : decode cX2_skip 1 = .ok (.invokevirtual 42, 3) := by decide +kernel
theorem dX2_skip_4 : decode cX2_skip 4 = .ok (.iload_n 1, 1) := by decide +kernel
theorem dX2_skip_5 : decode cX2_skip 5 = .ok (.if_icmp .eq 5, 3) := by decide +kernel
theorem dX2_skip_8 : decode cX2_skip 8 = .ok (.iconst 0, 1) := by decide +kernel
theorem dX2_skip_9 : decode cX2_skip 9 = .ok (.ireturn, 1) := by decide +kernel
theorem dX2_skip_10 : decode cX2_skip 10 = .ok (.aload_n 0, 1) := by decide +kernel
theorem dX2_skip_11 : decode cX2_skip 11 = .ok (.dup, 1) := by decide +kernel
theorem dX2_skip_12 : decode cX2_skip 12 = .ok (.getfield 28, 3) := by decide +kernel
theorem dX2_skip_15 : decode cX2_skip 15 = .ok (.iconst 1, 1) := by decide +kernel
theorem dX2_skip_16 : decode cX2_skip 16 = .ok (.iadd, 1) := by decide +kernel
theorem dX2_skip_17 : decode cX2_skip 17 = .ok (.putfield 28, 3) := by decide +kernel
theorem dX2_skip_20 : decode cX2_skip 20 = .ok (.iconst 1, 1) := by decide +kernel
theorem dX2_skip_21 : decode cX2_skip 21 = .ok (.ireturn, 1) := by decide +kernel
set_option maxRecDepth 20000 in
theorem ggX2_sign_X4_get : GoodIn wsX2_sign wsX4_get := goodIn_r _ [8, 9, 16] (by decide +kernel) (by decide +kernel)
set_option maxRecDepth 20000 in
theorem gX2_sign_X4_get : GoodIn wsX2_sign (wsV RX2 59 RX4 yX4_get wsX4_get) := goodIn_app (goodIn_of _ (by decide +kernel)) ggX2_sign_X4_get
theorem dX2_sign_0 : decode cX2_sign 0 = .ok (.aload_n 0, 1) := by decide +kernel
theorem dX2_sign_1 : decode cX2_sign 1 = .ok (.getfield 28, 3) := by decide +kernel
theorem dX2_sign_4 : decode cX2_sign 4 = .ok (.aload_n 0, 1) := by decide +kernel
theorem dX2_sign_5 : decode cX2_sign 5 = .ok (.getfield 20, 3) := by decide +kernel
theorem dX2_sign_8 : decode cX2_sign 8 = .ok (.if_icmp .ge 17, 3) := by decide +kernel
theorem dX2_sign_11 : decode cX2_sign 11 = .ok (.aload_n 0, 1) := by decide +kernel
theorem dX2_sign_12 : decode cX2_sign 12 = .ok (.getfield 14, 3) := by decide +kernel
theorem dX2_sign_15 : decode cX2_sign 15 = .ok (.aload_n 0, 1) := by decide +kernel
theorem dX2_sign_16 : decode cX2_sign 16 = .ok (.getfield 28, 3) := by decide +kernel
theorem dX2_sign_19 : decode cX2_sign 19 = .ok (.invokevirtual 59, 3) := by decide +kernel
theorem dX2_sign_22 : decode cX2_sign 22 = .ok (.goto 5, 3) := by decide +kernel
theorem dX2_sign_25 : decode cX2_sign 25 = .ok (.bipush (-6), 2) := by decide +kernel
theorem dX2_sign_27 : decode cX2_sign 27 = .ok (.ireturn, 1) := by decide +kernel
set_option maxRecDepth 20000 in
theorem ggX2_readNumber_X2_sign : GoodIn wsX2_readNumber wsX2_sign := goodIn_r _ [10, 5, 11, 12, 13, 14, 15, 16, 17, 18, 19, 20, 21, 22, 23, 24, 25] (by decide +kernel) (by decide +kernel)
set_option maxRecDepth 20000 in
theorem gX2_readNumber_X2_sign : GoodIn wsX2_readNumber (wsV RX2 42 RX2 yX2_sign wsX2_sign) := goodIn_app (goodIn_of _ (by decide +kernel)) ggX2_readNumber_X2_sign
theorem dX2_readNumber_0 : decode cX2_readNumber 0 = .ok (.bipush (-6), 2) := by decide +kernel
theorem dX2_readNumber_2 : decode cX2_readNumber 2 = .ok (.istore_n 2, 1) := by decide +kernel
theorem dX2_readNumber_3 : decode cX2_readNumber 3 = .ok (.iconst 0, 1) := by decide +kernel
theorem dX2_readNumber_4 : decode cX2_readNumber 4 = .ok (.istore_n 3, 1) := by decide +kernel
theorem dX2_readNumber_5 : decode cX2_readNumber 5 = .ok (.iload_n 3, 1) := by decide +kernel
theorem dX2_readNumber_6 : decode cX2_readNumber 6 = .ok (.bipush 60, 2) := by decide +kernel
theorem dX2_readNumber_8 : decode cX2_readNumber 8 = .ok (.if_icmp .ge 72, 3) := by decide +kernel
theorem dX2_readNumber_11 : decode cX2_readNumber 11 = .ok (.aload_n 0, 1) := by decide +kernel
theorem dX2_readNumber_12 : decode cX2_readNumber 12 = .ok (.invokevirtual 42, 3) := by decide +kernel
theorem dX2_readNumber_15 : decode cX2_readNumber 15 = .ok (.bipush 48, 2) := by decide +kernel
theorem dX2_readNumber_17 : decode cX2_readNumber 17 = .ok (.isub, 1) := by decide +kernel
theorem dX2_readNumber_18 : decode cX2_readNumber 18 = .ok (.istore 4, 2) := by decide +kernel
theorem dX2_readNumber_20 : decode cX2_readNumber 20 = .ok (.iload 4, 2) := by decide +kernel
theorem dX2_readNumber_22 : decode cX2_readNumber 22 = .ok (.ifCond .lt 58, 3) := by decide +kernel
theorem dX2_readNumber_25 : decode cX2_readNumber 25 = .ok (.iload 4, 2) := by decide +kernel
theorem dX2_readNumber_27 : decode cX2_readNumber 27 = .ok (.bipush 9, 2) := by decide +kernel
theorem dX2_readNumber_29 : decode cX2_readNumber 29 = .ok (.if_icmp .gt 51, 3) := by decide +kernel
theorem dX2_readNumber_32 : decode cX2_readNumber 32 = .ok (.iload_n 2, 1) := by decide +kernel
theorem dX2_readNumber_33 : decode cX2_readNumber 33 = .ok (.ifCond .ne 6, 3) := by decide +kernel
theorem dX2_readNumber_36 : decode cX2_readNumber 36 = .ok (.goto 44, 3) := by decide +kernel
theorem dX2_readNumber_39 : decode cX2_readNumber 39 = .ok (.iload_n 2, 1) := by decide +kernel
theorem dX2_readNumber_40 : decode cX2_readNumber 40 = .ok (.iconst 0, 1) := by decide +kernel
theorem dX2_readNumber_41 : decode cX2_readNumber 41 = .ok (.invokestatic 62, 3) := by decide +kernel
theorem dX2_readNumber_44 : decode cX2_readNumber 44 = .ok (.bipush 10, 2) := by decide +kernel
theorem dX2_readNumber_46 : decode cX2_readNumber 46 = .ok (.imul, 1) := by decide +kernel
theorem dX2_readNumber_47 : decode cX2_readNumber 47 = .ok (.iload 4, 2) := by decide +kernel
theorem dX2_readNumber_49 : decode cX2_readNumber 49 = .ok (.iadd, 1) := by decide +kernel
theorem dX2_readNumber_50 : decode cX2_readNumber 50 = .ok (.istore 5, 2) := by decide +kernel
theorem dX2_readNumber_52 : decode cX2_readNumber 52 = .ok (.iload 5, 2) := by decide +kernel
theorem dX2_readNumber_54 : decode cX2_readNumber 54 = .ok (.iload_n 1, 1) := by decide +kernel
theorem dX2_readNumber_55 : decode cX2_readNumber 55 = .ok (.if_icmp .le 6, 3) := by decide +kernel
theorem dX2_readNumber_58 : decode cX2_readNumber 58 = .ok (.goto 22, 3) := by decide +kernel
theorem dX2_readNumber_61 : decode cX2_readNumber 61 = .ok (.iload 5, 2) := by decide +kernel
theorem dX2_readNumber_63 : decode cX2_readNumber 63 = .ok (.istore_n 2, 1) := by decide +kernel
theorem dX2_readNumber_64 : decode cX2_readNumber 64 = .ok (.aload_n 0, 1) := by decide +kernel
theorem dX2_readNumber_65 : decode cX2_readNumber 65 = .ok (.dup, 1) := by decide +kernel
theorem dX2_readNumber_66 : decode cX2_readNumber 66 = .ok (.getfield 28, 3) := by decide +kernel
theorem dX2_readNumber_69 : decode cX2_readNumber 69 = .ok (.iconst 1, 1) := by decide +kernel
theorem dX2_readNumber_70 : decode cX2_readNumber 70 = .ok (.iadd, 1) := by decide +kernel
theorem dX2_readNumber_71 : decode cX2_readNumber 71 = .ok (.putfield 28, 3) := by decide +kernel
theorem dX2_readNumber_74 : decode cX2_readNumber 74 = .ok (.iinc 3 1, 3) := by decide +kernel
theorem dX2_readNumber_77 : decode cX2_readNumber 77 = .ok (.goto (-72), 3) := by decide +kernel
theorem dX2_readNumber_80 : decode cX2_readNumber 80 = .ok (.iload_n 2, 1) := by decide +kernel
theorem dX2_readNumber_81 : decode cX2_readNumber 81 = .ok (.ireturn, 1) := by decide +kernel
end
section
set_option maxRecDepth 20000 in
theorem ggX3_init_X4_init : GoodIn wsX3_init wsX4_init := goodIn_r _ [11, 12, 2, 3, 13, 14, 15, 16, 17, 18, 19, 20, 21, 22, 23] (by decide +kernel) (by decide +kernel)
set_option maxRecDepth 20000 in
theorem gX3_init_X4_init : GoodIn wsX3_init (wsX4_init) := ggX3_init_X4_init
theorem dX3_init_0 : decode cX3_init 0 = .ok (.aload_n 0, 1) := by decide +kernel
theorem dX3_init_1 : decode cX3_init 1 = .ok (.invokespecial 3, 3) := by decide +kernel
theorem dX3_init_4 : decode cX3_init 4 = .ok (.aload_n 0, 1) := by decide +kernel
theorem dX3_init_5 : decode cX3_init 5 = .ok (.new 9, 3) := by decide +kernel
theorem dX3_init_8 : decode cX3_init 8 = .ok (.dup, 1) := by decide +kernel
theorem dX3_init_9 : decode cX3_init 9 = .ok (.bipush 16, 2) := by decide +kernel
theorem dX3_init_11 : decode cX3_init 11 = .ok (.invokespecial 11, 3) := by decide +kernel
theorem dX3_init_14 : decode cX3_init 14 = .ok (.putfield 14, 3) := by decide +kernel
theorem dX3_init_17 : decode cX3_init 17 = .ok (.aload_n 0, 1) := by decide +kernel
theorem dX3_init_18 : decode cX3_init 18 = .ok (.new 9, 3) := by decide +kernel
theorem dX3_init_21 : decode cX3_init 21 = .ok (.dup, 1) := by decide +kernel
theorem dX3_init_22 : decode cX3_init 22 = .ok (.bipush 48, 2) := by decide +kernel
theorem dX3_init_24 : decode cX3_init 24 = .ok (.invokespecial 11, 3) := by decide +kernel
theorem dX3_init_27 : decode cX3_init 27 = .ok (.putfield 20, 3) := by decide +kernel
theorem dX3_init_30 : decode cX3_init 30 = .ok (.return_, 1) := by decide +kernel
set_option maxRecDepth 20000 in
theorem ggX3_join_X3_tryCall : GoodIn wsX3_join wsX3_tryCall := goodIn_r _ [5, 6, 7, 8, 9, 10, 11, 12, 13, 14, 15, 16, 17, 18, 19, 20, 21, 22, 23, 24, 25, 26, 27, 28, 29, 30, 31, 4, 32, 33, 34, 35, 36, 37, 38, 39, 40, 41, 42, 43, 44, 45, 46, 47, 48, 49, 50, 51, 52, 53, 54, 55, 56, 57, 58, 59, 60, 61, 62, 63, 64, 65, 66, 67, 68, 69, 70, 71, 72, 73, 74, 75, 76, 77, 78, 102, 103, 104, 105, 106, 107, 108, 109, 110, 111, 112, 113, 114, 115, 116, 117, 118, 119, 120, 121, 122, 123] (by decide +kernel) (by decide +kernel)
set_option maxRecDepth 20000 in
theorem gX3_join_X3_tryCall : GoodIn wsX3_join (wsV RX3 23 RX3 yX3_tryCall wsX3_tryCall) := goodIn_app (goodIn_of _ (by decide +kernel)) ggX3_join_X3_tryCall
set_option maxRecDepth 20000 in
theorem ggX3_join_X1_addCall : GoodIn wsX3_join wsX1_addCall := goodIn_r _ [82, 17, 83, 84, 28, 85, 76, 77, 21, 78, 23, 102, 103, 104, 105, 106, 107, 108, 109, 110, 111, 112, 113, 114, 115, 116, 117, 118] (by decide +kernel) (by decide +kernel)
set_option maxRecDepth 20000 in
theorem gX3_join_X1_addCall : GoodIn wsX3_join (wsV RX3 27 RX1 yX1_addCall wsX1_addCall) := goodIn_app (goodIn_of _ (by decide +kernel)) ggX3_join_X1_addCall
set_option maxRecDepth 20000 in
theorem ggX3_join_X3_settle : GoodIn wsX3_join wsX3_settle := goodIn_r _ [89, 33, 72, 71, 36, 90, 74, 19, 20, 21, 22, 23, 91, 92, 93, 9, 94, 95, 61, 96, 84, 18, 97, 38, 39, 40, 12, 47, 48, 49, 85, 76, 77, 78, 98, 99, 100, 101, 119, 120, 121, 122, 123, 102, 103, 104, 105, 106, 107, 108, 109, 110, 111, 112, 113, 114, 115, 116, 117, 118] (by decide +kernel) (by decide +kernel)
set_option maxRecDepth 20000 in
theorem gX3_join_X3_settle : GoodIn wsX3_join (wsV RX3 33 RX3 yX3_settle wsX3_settle) := goodIn_app (goodIn_of _ (by decide +kernel)) ggX3_join_X3_settle
theorem dX3_join_0 : decode cX3_join 0 = .ok (.aload_n 0, 1) := by decide +kernel
theorem dX3_join_1 : decode cX3_join 1 = .ok (.aload_n 1, 1) := by decide +kernel
theorem dX3_join_2 : decode cX3_join 2 = .ok (.iload_n 2, 1) := by decide +kernel
theorem dX3_join_3 : decode cX3_join 3 = .ok (.iload_n 3, 1) := by decide +kernel
theorem dX3_join_4 : decode cX3_join 4 = .ok (.invokevirtual 23, 3) := by decide +kernel
theorem dX3_join_7 : decode cX3_join 7 = .ok (.istore 4, 2) := by decide +kernel
theorem dX3_join_9 : decode cX3_join 9 = .ok (.iload 4, 2) := by decide +kernel
theorem dX3_join_11 : decode cX3_join 11 = .ok (.ifCond .ge 6, 3) := by decide +kernel
theorem dX3_join_14 : decode cX3_join 14 = .ok (.iload 4, 2) := by decide +kernel
theorem dX3_join_16 : decode cX3_join 16 = .ok (.ireturn, 1) := by decide +kernel
theorem dX3_join_17 : decode cX3_join 17 = .ok (.aload_n 1, 1) := by decide +kernel
theorem dX3_join_18 : decode cX3_join 18 = .ok (.iload_n 2, 1) := by decide +kernel
theorem dX3_join_19 : decode cX3_join 19 = .ok (.iload_n 3, 1) := by decide +kernel
theorem dX3_join_20 : decode cX3_join 20 = .ok (.invokevirtual 27, 3) := by decide +kernel
theorem dX3_join_23 : decode cX3_join 23 = .ok (.aload_n 0, 1) := by decide +kernel
theorem dX3_join_24 : decode cX3_join 24 = .ok (.aload_n 1, 1) := by decide +kernel
theorem dX3_join_25 : decode cX3_join 25 = .ok (.iload_n 2, 1) := by decide +kernel
theorem dX3_join_26 : decode cX3_join 26 = .ok (.iload 4, 2) := by decide +kernel
theorem dX3_join_28 : decode cX3_join 28 = .ok (.invokevirtual 33, 3) := by decide +kernel
theorem dX3_join_31 : decode cX3_join 31 = .ok (.iload 4, 2) := by decide +kernel
theorem dX3_join_33 : decode cX3_join 33 = .ok (.ireturn, 1) := by decide +kernel
set_option maxRecDepth 20000 in
theorem ggX3_part_X1_isLine : GoodIn wsX3_part wsX1_isLine := goodIn_r _ [7, 8, 9, 46, 47, 48, 49, 50, 51, 52, 53, 54, 55, 56, 57, 58, 59, 60, 61] (by decide +kernel) (by decide +kernel)
set_option maxRecDepth 20000 in
theorem gX3_part_X1_isLine : GoodIn wsX3_part (wsV RX3 37 RX1 yX1_isLine wsX1_isLine) := goodIn_app (goodIn_of _ (by decide +kernel)) ggX3_part_X1_isLine
set_option maxRecDepth 20000 in
theorem ggX3_part_X1_isInletBusy : GoodIn wsX3_part wsX1_isInletBusy := goodIn_r _ [13, 14, 15, 16, 17, 18, 19, 20, 46, 47, 48, 49, 50, 51, 52, 53, 54, 55, 56, 57, 58, 59, 60, 61, 62] (by decide +kernel) (by decide +kernel)
set_option maxRecDepth 20000 in
theorem gX3_part_X1_isInletBusy : GoodIn wsX3_part (wsV RX3 41 RX1 yX1_isInletBusy wsX1_isInletBusy) := goodIn_app (goodIn_of _ (by decide +kernel)) ggX3_part_X1_isInletBusy
set_option maxRecDepth 20000 in
theorem ggX3_part_X4_get : GoodIn wsX3_part wsX4_get := goodIn_r _ [19, 20, 62] (by decide +kernel) (by decide +kernel)
set_option maxRecDepth 20000 in
theorem gX3_part_X4_get : GoodIn wsX3_part (wsV RX3 47 RX4 yX4_get wsX4_get) := goodIn_app (goodIn_of _ (by decide +kernel)) ggX3_part_X4_get
set_option maxRecDepth 20000 in
theorem ggX3_part_X1_removeCall : GoodIn wsX3_part wsX1_removeCall := goodIn_r _ [25, 26, 27, 14, 28, 29, 30, 6, 31, 32, 33, 34, 15, 16, 17, 18, 19, 20, 35, 36, 37, 38, 9, 39, 40, 41, 42, 43, 44, 45, 46, 47, 48, 49, 50, 51, 52, 53, 54, 55, 56, 57, 58, 59, 60, 61, 62] (by decide +kernel) (by decide +kernel)
set_option maxRecDepth 20000 in
theorem gX3_part_X1_removeCall : GoodIn wsX3_part (wsV RX3 51 RX1 yX1_removeCall wsX1_removeCall) := goodIn_app (goodIn_of _ (by decide +kernel)) ggX3_part_X1_removeCall
theorem dX3_part_0 : decode cX3_part 0 = .ok (.aload_n 1, 1) := by decide +kernel
theorem dX3_part_1 : decode cX3_part 1 = .ok (.iload_n 2, 1) := by decide +kernel
theorem dX3_part_2 : decode cX3_part 2 = .ok (.invokevirtual 37, 3) := by decide +kernel
theorem dX3_part_5 : decode cX3_part 5 = .ok (.ifCond .ne 5, 3) := by decide +kernel
theorem dX3_part_8 : decode cX3_part 8 = .ok (.iconst (-1), 1) := by decide +kernel
theorem dX3_part_9 : decode cX3_part 9 = .ok (.ireturn, 1) := by decide +kernel
theorem dX3_part_10 : decode cX3_part 10 = .ok (.aload_n 1, 1) := by decide +kernel
theorem dX3_part_11 : decode cX3_part 11 = .ok (.iload_n 2, 1) := by decide +kernel
theorem dX3_part_12 : decode cX3_part 12 = .ok (.invokevirtual 41, 3) := by decide +kernel
theorem dX3_part_15 : decode cX3_part 15 = .ok (.ifCond .ne 6, 3) := by decide +kernel
theorem dX3_part_18 : decode cX3_part 18 = .ok (.bipush (-3), 2) := by decide +kernel
theorem dX3_part_20 : decode cX3_part 20 = .ok (.ireturn, 1) := by decide +kernel
theorem dX3_part_21 : decode cX3_part 21 = .ok (.aload_n 1, 1) := by decide +kernel
theorem dX3_part_22 : decode cX3_part 22 = .ok (.getfield 44, 3) := by decide +kernel
theorem dX3_part_25 : decode cX3_part 25 = .ok (.iload_n 2, 1) := by decide +kernel
theorem dX3_part_26 : decode cX3_part 26 = .ok (.invokevirtual 47, 3) := by decide +kernel
theorem dX3_part_29 : decode cX3_part 29 = .ok (.istore_n 3, 1) := by decide +kernel
theorem dX3_part_30 : decode cX3_part 30 = .ok (.aload_n 1, 1) := by decide +kernel
theorem dX3_part_31 : decode cX3_part 31 = .ok (.iload_n 2, 1) := by decide +kernel
theorem dX3_part_32 : decode cX3_part 32 = .ok (.invokevirtual 51, 3) := by decide +kernel
theorem dX3_part_35 : decode cX3_part 35 = .ok (.aload_n 1, 1) := by decide +kernel
theorem dX3_part_36 : decode cX3_part 36 = .ok (.dup, 1) := by decide +kernel
theorem dX3_part_37 : decode cX3_part 37 = .ok (.getfield 54, 3) := by decide +kernel
theorem dX3_part_40 : decode cX3_part 40 = .ok (.iconst 1, 1) := by decide +kernel
theorem dX3_part_41 : decode cX3_part 41 = .ok (.iadd, 1) := by decide +kernel
theorem dX3_part_42 : decode cX3_part 42 = .ok (.putfield 54, 3) := by decide +kernel
theorem dX3_part_45 : decode cX3_part 45 = .ok (.iload_n 3, 1) := by decide +kernel
theorem dX3_part_46 : decode cX3_part 46 = .ok (.ireturn, 1) := by decide +kernel
set_option maxRecDepth 20000 in
theorem ggX3_retire_X1_isMiddle : GoodIn wsX3_retire wsX1_isMiddle := goodIn_r _ [7, 8, 105, 106, 107, 108, 109, 110, 111, 112, 113, 114, 115, 116, 117, 118, 119, 120] (by decide +kernel) (by decide +kernel)
set_option maxRecDepth 20000 in
theorem gX3_retire_X1_isMiddle : GoodIn wsX3_retire (wsV RX3 58 RX1 yX1_isMiddle wsX1_isMiddle) := goodIn_app (goodIn_of _ (by decide +kernel)) ggX3_retire_X1_isMiddle
set_option maxRecDepth 20000 in
theorem ggX3_retire_X5_hasBit : GoodIn wsX3_retire wsX5_hasBit := goodIn_r _ [11] (by decide +kernel) (by decide +kernel)
set_option maxRecDepth 20000 in
theorem gX3_retire_X5_hasBit_n64 : GoodIn wsX3_retire (wsX5_hasBit) := ggX3_retire_X5_hasBit
set_option maxRecDepth 20000 in
theorem ggX3_retire_X4_get : GoodIn wsX3_retire wsX4_get := goodIn_r _ [16, 17, 121] (by decide +kernel) (by decide +kernel)
set_option maxRecDepth 20000 in
theorem gX3_retire_X4_get : GoodIn wsX3_retire (wsV RX3 47 RX4 yX4_get wsX4_get) := goodIn_app (goodIn_of _ (by decide +kernel)) ggX3_retire_X4_get
set_option maxRecDepth 20000 in
theorem ggX3_retire_X1_liftCall : GoodIn wsX3_retire wsX1_liftCall := goodIn_r _ [21, 22, 23, 24, 25, 26, 13, 14, 15, 16, 17, 27, 28, 29, 6, 30, 31, 32, 10, 33, 34, 35, 36, 37, 105, 106, 107, 108, 109, 110, 111, 112, 113, 114, 115, 116, 117, 118, 119, 120, 121] (by decide +kernel) (by decide +kernel)
set_option maxRecDepth 20000 in
theorem gX3_retire_X1_liftCall : GoodIn wsX3_retire (wsV RX3 71 RX1 yX1_liftCall wsX1_liftCall) := goodIn_app (goodIn_of _ (by decide +kernel)) ggX3_retire_X1_liftCall
set_option maxRecDepth 20000 in
theorem ggX3_retire_X3_reroute : GoodIn wsX3_retire wsX3_reroute := goodIn_r _ [42, 43, 44, 45, 46, 47, 48, 6, 49, 22, 50, 51, 52, 53, 54, 26, 13, 14, 15, 16, 17, 12, 55, 56, 57, 41, 58, 59, 60, 61, 62, 63, 28, 29, 30, 31, 64, 65, 66, 67, 8, 68, 32, 10, 33, 69, 70, 71, 72, 73, 9, 11, 74, 75, 76, 77, 78, 23, 79, 80, 81, 82, 83, 84, 85, 86, 87, 88, 89, 90, 35, 36, 37, 91, 92, 93, 94, 95, 25, 96, 19, 20, 21, 24, 27, 34, 97, 98, 99, 100, 18, 101, 102, 103, 104, 105, 106, 107, 108, 109, 110, 111, 112, 113, 114, 115, 116, 117, 118, 119, 120, 121, 122, 123, 124, 125, 126] (by decide +kernel) (by decide +kernel)
set_option maxRecDepth 20000 in
theorem gX3_retire_X3_reroute : GoodIn wsX3_retire (wsV RX3 74 RX3 yX3_reroute wsX3_reroute) := goodIn_app (goodIn_of _ (by decide +kernel)) ggX3_retire_X3_reroute
theorem dX3_retire_0 : decode cX3_retire 0 = .ok (.aload_n 1, 1) := by decide +kernel
theorem dX3_retire_1 : decode cX3_retire 1 = .ok (.iload_n 2, 1) := by decide +kernel
theorem dX3_retire_2 : decode cX3_retire 2 = .ok (.invokevirtual 58, 3) := by decide +kernel
theorem dX3_retire_5 : decode cX3_retire 5 = .ok (.ifCond .ne 5, 3) := by decide +kernel
theorem dX3_retire_8 : decode cX3_retire 8 = .ok (.iconst (-1), 1) := by decide +kernel
theorem dX3_retire_9 : decode cX3_retire 9 = .ok (.ireturn, 1) := by decide +kernel
theorem dX3_retire_10 : decode cX3_retire 10 = .ok (.aload_n 1, 1) := by decide +kernel
theorem dX3_retire_11 : decode cX3_retire 11 = .ok (.getfield 61, 3) := by decide +kernel
theorem dX3_retire_14 : decode cX3_retire 14 = .ok (.iload_n 2, 1) := by decide +kernel
theorem dX3_retire_15 : decode cX3_retire 15 = .ok (.invokestatic 64, 3) := by decide +kernel
theorem dX3_retire_18 : decode cX3_retire 18 = .ok (.ifCond .ne 6, 3) := by decide +kernel
theorem dX3_retire_21 : decode cX3_retire 21 = .ok (.bipush (-6), 2) := by decide +kernel
theorem dX3_retire_23 : decode cX3_retire 23 = .ok (.ireturn, 1) := by decide +kernel
theorem dX3_retire_24 : decode cX3_retire 24 = .ok (.aload_n 1, 1) := by decide +kernel
theorem dX3_retire_25 : decode cX3_retire 25 = .ok (.dup, 1) := by decide +kernel
theorem dX3_retire_26 : decode cX3_retire 26 = .ok (.getfield 61, 3) := by decide +kernel
theorem dX3_retire_29 : decode cX3_retire 29 = .ok (.iconst 1, 1) := by decide +kernel
theorem dX3_retire_30 : decode cX3_retire 30 = .ok (.iload_n 2, 1) := by decide +kernel
theorem dX3_retire_31 : decode cX3_retire 31 = .ok (.ishl, 1) := by decide +kernel
theorem dX3_retire_32 : decode cX3_retire 32 = .ok (.iconst (-1), 1) := by decide +kernel
theorem dX3_retire_33 : decode cX3_retire 33 = .ok (.ixor, 1) := by decide +kernel
theorem dX3_retire_34 : decode cX3_retire 34 = .ok (.iand, 1) := by decide +kernel
theorem dX3_retire_35 : decode cX3_retire 35 = .ok (.putfield 61, 3) := by decide +kernel
theorem dX3_retire_38 : decode cX3_retire 38 = .ok (.iconst 0, 1) := by decide +kernel
theorem dX3_retire_39 : decode cX3_retire 39 = .ok (.istore_n 3, 1) := by decide +kernel
theorem dX3_retire_40 : decode cX3_retire 40 = .ok (.iload_n 3, 1) := by decide +kernel
theorem dX3_retire_41 : decode cX3_retire 41 = .ok (.bipush 48, 2) := by decide +kernel
theorem dX3_retire_43 : decode cX3_retire 43 = .ok (.if_icmp .ge 26, 3) := by decide +kernel
theorem dX3_retire_46 : decode cX3_retire 46 = .ok (.aload_n 1, 1) := by decide +kernel
theorem dX3_retire_47 : decode cX3_retire 47 = .ok (.getfield 68, 3) := by decide +kernel
theorem dX3_retire_50 : decode cX3_retire 50 = .ok (.iload_n 3, 1) := by decide +kernel
theorem dX3_retire_51 : decode cX3_retire 51 = .ok (.invokevirtual 47, 3) := by decide +kernel
theorem dX3_retire_54 : decode cX3_retire 54 = .ok (.iload_n 2, 1) := by decide +kernel
theorem dX3_retire_55 : decode cX3_retire 55 = .ok (.if_icmp .ne 8, 3) := by decide +kernel
theorem dX3_retire_58 : decode cX3_retire 58 = .ok (.aload_n 1, 1) := by decide +kernel
theorem dX3_retire_59 : decode cX3_retire 59 = .ok (.iload_n 3, 1) := by decide +kernel
theorem dX3_retire_60 : decode cX3_retire 60 = .ok (.invokevirtual 71, 3) := by decide +kernel
theorem dX3_retire_63 : decode cX3_retire 63 = .ok (.iinc 3 1, 3) := by decide +kernel
theorem dX3_retire_66 : decode cX3_retire 66 = .ok (.goto (-26), 3) := by decide +kernel
theorem dX3_retire_69 : decode cX3_retire 69 = .ok (.aload_n 0, 1) := by decide +kernel
theorem dX3_retire_70 : decode cX3_retire 70 = .ok (.aload_n 1, 1) := by decide +kernel
theorem dX3_retire_71 : decode cX3_retire 71 = .ok (.invokevirtual 74, 3) := by decide +kernel
theorem dX3_retire_74 : decode cX3_retire 74 = .ok (.ireturn, 1) := by decide +kernel
set_option maxRecDepth 20000 in
theorem ggX3_revive_X1_isMiddle : GoodIn wsX3_revive wsX1_isMiddle := goodIn_r _ [6, 7, 18, 19, 20, 21, 22, 23, 24, 25, 26, 27, 28, 29, 30, 31, 32, 33] (by decide +kernel) (by decide +kernel)
set_option maxRecDepth 20000 in
theorem gX3_revive_X1_isMiddle : GoodIn wsX3_revive (wsV RX3 58 RX1 yX1_isMiddle wsX1_isMiddle) := goodIn_app (goodIn_of _ (by decide +kernel)) ggX3_revive_X1_isMiddle
set_option maxRecDepth 20000 in
theorem ggX3_revive_X5_hasBit : GoodIn wsX3_revive wsX5_hasBit := goodIn_r _ [10] (by decide +kernel) (by decide +kernel)
set_option maxRecDepth 20000 in
theorem gX3_revive_X5_hasBit_n64 : GoodIn wsX3_revive (wsX5_hasBit) := ggX3_revive_X5_hasBit
set_option maxRecDepth 20000 in
theorem ggX3_revive_J6_bitCount_0f7a4 : GoodIn wsX3_revive wsJ6_bitCount_0f7a4 := goodIn_r _ [14, 15, 16, 17] (by decide +kernel) (by decide +kernel)
set_option maxRecDepth 20000 in
theorem gX3_revive_J6_bitCount_0f7a4 : GoodIn wsX3_revive (va_wsS RX3 78 yJ6_bitCount_0f7a4 wsJ6_bitCount_0f7a4) := goodIn_app (goodIn_of _ (by decide +kernel)) ggX3_revive_J6_bitCount_0f7a4
theorem dX3_revive_0 : decode cX3_revive 0 = .ok (.aload_n 1, 1) := by decide +kernel
theorem dX3_revive_1 : decode cX3_revive 1 = .ok (.iload_n 2, 1) := by decide +kernel
theorem dX3_revive_2 : decode cX3_revive 2 = .ok (.invokevirtual 58, 3) := by decide +kernel
theorem dX3_revive_5 : decode cX3_revive 5 = .ok (.ifCond .ne 5, 3) := by decide +kernel
theorem dX3_revive_8 : decode cX3_revive 8 = .ok (.iconst (-1), 1) := by decide +kernel
theorem dX3_revive_9 : decode cX3_revive 9 = .ok (.ireturn, 1) := by decide +kernel
theorem dX3_revive_10 : decode cX3_revive 10 = .ok (.aload_n 1, 1) := by decide +kernel
theorem dX3_revive_11 : decode cX3_revive 11 = .ok (.getfield 61, 3) := by decide +kernel
theorem dX3_revive_14 : decode cX3_revive 14 = .ok (.iload_n 2, 1) := by decide +kernel
theorem dX3_revive_15 : decode cX3_revive 15 = .ok (.invokestatic 64, 3) := by decide +kernel
theorem dX3_revive_18 : decode cX3_revive 18 = .ok (.ifCond .eq 6, 3) := by decide +kernel
theorem dX3_revive_21 : decode cX3_revive 21 = .ok (.bipush (-6), 2) := by decide +kernel
theorem dX3_revive_23 : decode cX3_revive 23 = .ok (.ireturn, 1) := by decide +kernel
theorem dX3_revive_24 : decode cX3_revive 24 = .ok (.aload_n 1, 1) := by decide +kernel
theorem dX3_revive_25 : decode cX3_revive 25 = .ok (.dup, 1) := by decide +kernel
theorem dX3_revive_26 : decode cX3_revive 26 = .ok (.getfield 61, 3) := by decide +kernel
theorem dX3_revive_29 : decode cX3_revive 29 = .ok (.iconst 1, 1) := by decide +kernel
theorem dX3_revive_30 : decode cX3_revive 30 = .ok (.iload_n 2, 1) := by decide +kernel
theorem dX3_revive_31 : decode cX3_revive 31 = .ok (.ishl, 1) := by decide +kernel
theorem dX3_revive_32 : decode cX3_revive 32 = .ok (.ior, 1) := by decide +kernel
theorem dX3_revive_33 : decode cX3_revive 33 = .ok (.putfield 61, 3) := by decide +kernel
theorem dX3_revive_36 : decode cX3_revive 36 = .ok (.aload_n 1, 1) := by decide +kernel
theorem dX3_revive_37 : decode cX3_revive 37 = .ok (.getfield 61, 3) := by decide +kernel
theorem dX3_revive_40 : decode cX3_revive 40 = .ok (.invokestatic 78, 3) := by decide +kernel
theorem dX3_revive_43 : decode cX3_revive 43 = .ok (.ireturn, 1) := by decide +kernel
set_option maxRecDepth 20000 in
theorem ggX3_repack_X1_countCalls : GoodIn wsX3_repack wsX1_countCalls := goodIn_r _ [9, 10, 11, 12, 13, 14, 15, 16, 136, 137, 138, 139, 140, 141, 142, 143, 144, 145, 146, 147, 148, 149, 150, 151, 157] (by decide +kernel) (by decide +kernel)
set_option maxRecDepth 20000 in
theorem gX3_repack_X1_countCalls : GoodIn wsX3_repack (wsV RX3 83 RX1 yX1_countCalls wsX1_countCalls) := goodIn_app (goodIn_of _ (by decide +kernel)) ggX3_repack_X1_countCalls
set_option maxRecDepth 20000 in
theorem ggX3_repack_X1_fullestBoard : GoodIn wsX3_repack wsX1_fullestBoard := goodIn_r _ [20, 21, 22, 23, 24, 25, 26, 27, 28, 29, 8, 30, 10, 11, 12, 13, 14, 15, 16, 31, 32, 33, 34, 35, 136, 137, 138, 139, 140, 141, 142, 143, 144, 145, 146, 147, 148, 149, 150, 151, 157] (by decide +kernel) (by decide +kernel)
set_option maxRecDepth 20000 in
theorem gX3_repack_X1_fullestBoard : GoodIn wsX3_repack (wsV RX3 90 RX1 yX1_fullestBoard wsX1_fullestBoard) := goodIn_app (goodIn_of _ (by decide +kernel)) ggX3_repack_X1_fullestBoard
set_option maxRecDepth 20000 in
theorem ggX3_repack_X3_lowestBits : GoodIn wsX3_repack wsX3_lowestBits := goodIn_r _ [39, 40, 41, 42] (by decide +kernel) (by decide +kernel)
set_option maxRecDepth 20000 in
theorem gX3_repack_X3_lowestBits : GoodIn wsX3_repack (va_wsS RX3 93 yX3_lowestBits wsX3_lowestBits) := goodIn_app (goodIn_of _ (by decide +kernel)) ggX3_repack_X3_lowestBits
set_option maxRecDepth 20000 in
theorem ggX3_repack_X4_copyFrom : GoodIn wsX3_repack wsX4_copyFrom := goodIn_r _ [46, 16, 47, 48, 25, 49, 50, 51, 52, 53, 157] (by decide +kernel) (by decide +kernel)
set_option maxRecDepth 20000 in
theorem gX3_repack_X4_copyFrom : GoodIn wsX3_repack (wsV RX3 97 RX4 yX4_copyFrom wsX4_copyFrom) := goodIn_app (goodIn_of _ (by decide +kernel)) ggX3_repack_X4_copyFrom
set_option maxRecDepth 20000 in
theorem ggX3_repack_X1_liftCall : GoodIn wsX3_repack wsX1_liftCall := goodIn_r _ [57, 58, 59, 60, 61, 11, 12, 13, 14, 15, 16, 62, 63, 64, 8, 65, 22, 66, 41, 67, 68, 69, 70, 71, 136, 137, 138, 139, 140, 141, 142, 143, 144, 145, 146, 147, 148, 149, 150, 151, 157] (by decide +kernel) (by decide +kernel)
set_option maxRecDepth 20000 in
theorem gX3_repack_X1_liftCall : GoodIn wsX3_repack (wsV RX3 71 RX1 yX1_liftCall wsX1_liftCall) := goodIn_app (goodIn_of _ (by decide +kernel)) ggX3_repack_X1_liftCall
set_option maxRecDepth 20000 in
theorem ggX3_repack_X3_reroute : GoodIn wsX3_repack wsX3_reroute := goodIn_r _ [75, 76, 2, 77, 78, 79, 80, 8, 81, 58, 10, 27, 28, 29, 30, 11, 12, 13, 14, 15, 16, 82, 83, 84, 85, 38, 86, 87, 88, 89, 90, 91, 63, 64, 65, 22, 92, 93, 94, 95, 96, 97, 66, 41, 67, 98, 99, 100, 101, 102, 40, 42, 103, 104, 105, 106, 21, 59, 107, 108, 109, 110, 111, 112, 113, 114, 115, 116, 117, 118, 69, 70, 71, 119, 120, 121, 122, 35, 61, 123, 55, 56, 57, 60, 62, 68, 124, 125, 126, 127, 54, 128, 129, 130, 131, 136, 137, 138, 139, 140, 141, 142, 143, 144, 145, 146, 147, 148, 149, 150, 151, 157, 152, 153, 154, 155, 156] (by decide +kernel) (by decide +kernel)
set_option maxRecDepth 20000 in
theorem gX3_repack_X3_reroute : GoodIn wsX3_repack (wsV RX3 74 RX3 yX3_reroute wsX3_reroute) := goodIn_app (goodIn_of _ (by decide +kernel)) ggX3_repack_X3_reroute
set_option maxRecDepth 20000 in
theorem ggX3_repack_X3_countChanged : GoodIn wsX3_repack wsX3_countChanged := goodIn_r _ [135, 4, 3, 82, 12, 13, 14, 15, 16, 136, 137, 138, 139, 140, 141, 142, 143, 144, 145, 146, 147, 148, 149, 150, 151, 152, 153, 154, 155, 156, 157] (by decide +kernel) (by decide +kernel)
set_option maxRecDepth 20000 in
theorem gX3_repack_X3_countChanged : GoodIn wsX3_repack (wsV RX3 101 RX3 yX3_countChanged wsX3_countChanged) := goodIn_app (goodIn_of _ (by decide +kernel)) ggX3_repack_X3_countChanged
theorem dX3_repack_0 : decode cX3_repack 0 = .ok (.aload_n 1, 1) := by decide +kernel
theorem dX3_repack_1 : decode cX3_repack 1 = .ok (.invokevirtual 83, 3) := by decide +kernel
theorem dX3_repack_4 : decode cX3_repack 4 = .ok (.ifCond .ne 6, 3) := by decide +kernel
theorem dX3_repack_7 : decode cX3_repack 7 = .ok (.bipush (-6), 2) := by decide +kernel
theorem dX3_repack_9 : decode cX3_repack 9 = .ok (.ireturn, 1) := by decide +kernel
theorem dX3_repack_10 : decode cX3_repack 10 = .ok (.aload_n 1, 1) := by decide +kernel
theorem dX3_repack_11 : decode cX3_repack 11 = .ok (.getfield 61, 3) := by decide +kernel
theorem dX3_repack_14 : decode cX3_repack 14 = .ok (.istore_n 2, 1) := by decide +kernel
theorem dX3_repack_15 : decode cX3_repack 15 = .ok (.aload_n 1, 1) := by decide +kernel
theorem dX3_repack_16 : decode cX3_repack 16 = .ok (.getfield 87, 3) := by decide +kernel
theorem dX3_repack_19 : decode cX3_repack 19 = .ok (.istore_n 3, 1) := by decide +kernel
theorem dX3_repack_20 : decode cX3_repack 20 = .ok (.aload_n 1, 1) := by decide +kernel
theorem dX3_repack_21 : decode cX3_repack 21 = .ok (.iload_n 2, 1) := by decide +kernel
theorem dX3_repack_22 : decode cX3_repack 22 = .ok (.aload_n 1, 1) := by decide +kernel
theorem dX3_repack_23 : decode cX3_repack 23 = .ok (.invokevirtual 90, 3) := by decide +kernel
theorem dX3_repack_26 : decode cX3_repack 26 = .ok (.invokestatic 93, 3) := by decide +kernel
theorem dX3_repack_29 : decode cX3_repack 29 = .ok (.putfield 61, 3) := by decide +kernel
theorem dX3_repack_32 : decode cX3_repack 32 = .ok (.aload_n 0, 1) := by decide +kernel
theorem dX3_repack_33 : decode cX3_repack 33 = .ok (.getfield 20, 3) := by decide +kernel
theorem dX3_repack_36 : decode cX3_repack 36 = .ok (.aload_n 1, 1) := by decide +kernel
theorem dX3_repack_37 : decode cX3_repack 37 = .ok (.getfield 68, 3) := by decide +kernel
theorem dX3_repack_40 : decode cX3_repack 40 = .ok (.invokevirtual 97, 3) := by decide +kernel
theorem dX3_repack_43 : decode cX3_repack 43 = .ok (.iconst 0, 1) := by decide +kernel
theorem dX3_repack_44 : decode cX3_repack 44 = .ok (.istore 4, 2) := by decide +kernel
theorem dX3_repack_46 : decode cX3_repack 46 = .ok (.iload 4, 2) := by decide +kernel
theorem dX3_repack_48 : decode cX3_repack 48 = .ok (.bipush 48, 2) := by decide +kernel
theorem dX3_repack_50 : decode cX3_repack 50 = .ok (.if_icmp .ge 15, 3) := by decide +kernel
theorem dX3_repack_53 : decode cX3_repack 53 = .ok (.aload_n 1, 1) := by decide +kernel
theorem dX3_repack_54 : decode cX3_repack 54 = .ok (.iload 4, 2) := by decide +kernel
theorem dX3_repack_56 : decode cX3_repack 56 = .ok (.invokevirtual 71, 3) := by decide +kernel
theorem dX3_repack_59 : decode cX3_repack 59 = .ok (.iinc 4 1, 3) := by decide +kernel
theorem dX3_repack_62 : decode cX3_repack 62 = .ok (.goto (-16), 3) := by decide +kernel
theorem dX3_repack_65 : decode cX3_repack 65 = .ok (.aload_n 0, 1) := by decide +kernel
theorem dX3_repack_66 : decode cX3_repack 66 = .ok (.aload_n 1, 1) := by decide +kernel
theorem dX3_repack_67 : decode cX3_repack 67 = .ok (.invokevirtual 74, 3) := by decide +kernel
theorem dX3_repack_70 : decode cX3_repack 70 = .ok (.pop, 1) := by decide +kernel
theorem dX3_repack_71 : decode cX3_repack 71 = .ok (.aload_n 1, 1) := by decide +kernel
theorem dX3_repack_72 : decode cX3_repack 72 = .ok (.iload_n 2, 1) := by decide +kernel
theorem dX3_repack_73 : decode cX3_repack 73 = .ok (.putfield 61, 3) := by decide +kernel
theorem dX3_repack_76 : decode cX3_repack 76 = .ok (.aload_n 0, 1) := by decide +kernel
theorem dX3_repack_77 : decode cX3_repack 77 = .ok (.aload_n 1, 1) := by decide +kernel
theorem dX3_repack_78 : decode cX3_repack 78 = .ok (.invokevirtual 101, 3) := by decide +kernel
theorem dX3_repack_81 : decode cX3_repack 81 = .ok (.istore 4, 2) := by decide +kernel
theorem dX3_repack_83 : decode cX3_repack 83 = .ok (.aload_n 1, 1) := by decide +kernel
theorem dX3_repack_84 : decode cX3_repack 84 = .ok (.iload_n 3, 1) := by decide +kernel
theorem dX3_repack_85 : decode cX3_repack 85 = .ok (.iload 4, 2) := by decide +kernel
theorem dX3_repack_87 : decode cX3_repack 87 = .ok (.iadd, 1) := by decide +kernel
theorem dX3_repack_88 : decode cX3_repack 88 = .ok (.putfield 87, 3) := by decide +kernel
theorem dX3_repack_91 : decode cX3_repack 91 = .ok (.iload 4, 2) := by decide +kernel
theorem dX3_repack_93 : decode cX3_repack 93 = .ok (.ireturn, 1) := by decide +kernel
set_option maxRecDepth 20000 in
theorem ggX3_tryCall_X1_isLine : GoodIn wsX3_tryCall wsX1_isLine := goodIn_r _ [5, 6, 7, 75, 76, 77, 78, 79, 80, 81, 82, 83, 84, 85, 86, 87, 88, 89, 90] (by decide +kernel) (by decide +kernel)
set_option maxRecDepth 20000 in
theorem gX3_tryCall_X1_isLine : GoodIn wsX3_tryCall (wsV RX3 37 RX1 yX1_isLine wsX1_isLine) := goodIn_app (goodIn_of _ (by decide +kernel)) ggX3_tryCall_X1_isLine
set_option maxRecDepth 20000 in
theorem ggX3_tryCall_X1_isInletBusy : GoodIn wsX3_tryCall wsX1_isInletBusy := goodIn_r _ [11, 12, 13, 14, 15, 16, 17, 18, 75, 76, 77, 78, 79, 80, 81, 82, 83, 84, 85, 86, 87, 88, 89, 90, 91] (by decide +kernel) (by decide +kernel)
set_option maxRecDepth 20000 in
theorem gX3_tryCall_X1_isInletBusy : GoodIn wsX3_tryCall (wsV RX3 41 RX1 yX1_isInletBusy wsX1_isInletBusy) := goodIn_app (goodIn_of _ (by decide +kernel)) ggX3_tryCall_X1_isInletBusy
set_option maxRecDepth 20000 in
theorem ggX3_tryCall_X1_isOutletBusy : GoodIn wsX3_tryCall wsX1_isOutletBusy := goodIn_r _ [22, 23, 13, 14, 15, 16, 17, 18, 75, 76, 77, 78, 79, 80, 81, 82, 83, 84, 85, 86, 87, 88, 89, 90, 91] (by decide +kernel) (by decide +kernel)
set_option maxRecDepth 20000 in
theorem gX3_tryCall_X1_isOutletBusy : GoodIn wsX3_tryCall (wsV RX3 104 RX1 yX1_isOutletBusy wsX1_isOutletBusy) := goodIn_app (goodIn_of _ (by decide +kernel)) ggX3_tryCall_X1_isOutletBusy
set_option maxRecDepth 20000 in
theorem ggX3_tryCall_X3_findWay : GoodIn wsX3_tryCall wsX3_findWay := goodIn_r _ [28, 29, 30, 31, 32, 33, 34, 35, 4, 36, 7, 37, 38, 39, 40, 41, 42, 43, 44, 45, 13, 14, 15, 16, 17, 18, 46, 47, 48, 27, 49, 50, 51, 52, 53, 54, 55, 56, 6, 57, 58, 59, 60, 61, 62, 63, 64, 65, 66, 67, 68, 69, 70, 71, 72, 73, 74, 92, 93, 94, 95, 96, 75, 76, 77, 78, 79, 80, 81, 82, 83, 84, 85, 86, 87, 88, 89, 90, 91] (by decide +kernel) (by decide +kernel)
set_option maxRecDepth 20000 in
theorem gX3_tryCall_X3_findWay : GoodIn wsX3_tryCall (wsV RX3 107 RX3 yX3_findWay wsX3_findWay) := goodIn_app (goodIn_of _ (by decide +kernel)) ggX3_tryCall_X3_findWay
theorem dX3_tryCall_0 : decode cX3_tryCall 0 = .ok (.aload_n 1, 1) := by decide +kernel
theorem dX3_tryCall_1 : decode cX3_tryCall 1 = .ok (.iload_n 2, 1) := by decide +kernel
theorem dX3_tryCall_2 : decode cX3_tryCall 2 = .ok (.invokevirtual 37, 3) := by decide +kernel
theorem dX3_tryCall_5 : decode cX3_tryCall 5 = .ok (.ifCond .eq 11, 3) := by decide +kernel
theorem dX3_tryCall_8 : decode cX3_tryCall 8 = .ok (.aload_n 1, 1) := by decide +kernel
theorem dX3_tryCall_9 : decode cX3_tryCall 9 = .ok (.iload_n 3, 1) := by decide +kernel
theorem dX3_tryCall_10 : decode cX3_tryCall 10 = .ok (.invokevirtual 37, 3) := by decide +kernel
theorem dX3_tryCall_13 : decode cX3_tryCall 13 = .ok (.ifCond .ne 5, 3) := by decide +kernel
theorem dX3_tryCall_16 : decode cX3_tryCall 16 = .ok (.iconst (-1), 1) := by decide +kernel
theorem dX3_tryCall_17 : decode cX3_tryCall 17 = .ok (.ireturn, 1) := by decide +kernel
theorem dX3_tryCall_18 : decode cX3_tryCall 18 = .ok (.aload_n 1, 1) := by decide +kernel
theorem dX3_tryCall_19 : decode cX3_tryCall 19 = .ok (.iload_n 2, 1) := by decide +kernel
theorem dX3_tryCall_20 : decode cX3_tryCall 20 = .ok (.invokevirtual 41, 3) := by decide +kernel
theorem dX3_tryCall_23 : decode cX3_tryCall 23 = .ok (.ifCond .ne 11, 3) := by decide +kernel
theorem dX3_tryCall_26 : decode cX3_tryCall 26 = .ok (.aload_n 1, 1) := by decide +kernel
theorem dX3_tryCall_27 : decode cX3_tryCall 27 = .ok (.iload_n 3, 1) := by decide +kernel
theorem dX3_tryCall_28 : decode cX3_tryCall 28 = .ok (.invokevirtual 104, 3) := by decide +kernel
theorem dX3_tryCall_31 : decode cX3_tryCall 31 = .ok (.ifCond .eq 6, 3) := by decide +kernel
theorem dX3_tryCall_34 : decode cX3_tryCall 34 = .ok (.bipush (-3), 2) := by decide +kernel
theorem dX3_tryCall_36 : decode cX3_tryCall 36 = .ok (.ireturn, 1) := by decide +kernel
theorem dX3_tryCall_37 : decode cX3_tryCall 37 = .ok (.aload_n 0, 1) := by decide +kernel
theorem dX3_tryCall_38 : decode cX3_tryCall 38 = .ok (.aload_n 1, 1) := by decide +kernel
theorem dX3_tryCall_39 : decode cX3_tryCall 39 = .ok (.iload_n 2, 1) := by decide +kernel
theorem dX3_tryCall_40 : decode cX3_tryCall 40 = .ok (.iload_n 3, 1) := by decide +kernel
theorem dX3_tryCall_41 : decode cX3_tryCall 41 = .ok (.invokevirtual 107, 3) := by decide +kernel
theorem dX3_tryCall_44 : decode cX3_tryCall 44 = .ok (.ireturn, 1) := by decide +kernel
set_option maxRecDepth 20000 in
theorem ggX3_reroute_X1_firstLifted : GoodIn wsX3_reroute wsX1_firstLifted := goodIn_r _ [8, 9, 10, 11, 12, 13, 7, 14, 15, 16, 17, 18, 19, 20, 95, 96, 97, 98, 99, 100, 101, 102, 103, 104, 105, 106, 107, 108, 109, 110, 111] (by decide +kernel) (by decide +kernel)
set_option maxRecDepth 20000 in
theorem gX3_reroute_X1_firstLifted : GoodIn wsX3_reroute (wsV RX3 110 RX1 yX1_firstLifted wsX1_firstLifted) := goodIn_app (goodIn_of _ (by decide +kernel)) ggX3_reroute_X1_firstLifted
set_option maxRecDepth 20000 in
theorem ggX3_reroute_X4_get : GoodIn wsX3_reroute wsX4_get := goodIn_r _ [19, 20, 111] (by decide +kernel) (by decide +kernel)
set_option maxRecDepth 20000 in
theorem gX3_reroute_X4_get : GoodIn wsX3_reroute (wsV RX3 47 RX4 yX4_get wsX4_get) := goodIn_app (goodIn_of _ (by decide +kernel)) ggX3_reroute_X4_get
set_option maxRecDepth 20000 in
theorem ggX3_reroute_X3_findWay : GoodIn wsX3_reroute wsX3_findWay := goodIn_r _ [26, 27, 28, 29, 30, 31, 32, 33, 7, 34, 35, 36, 37, 38, 39, 40, 41, 42, 43, 44, 15, 16, 17, 18, 19, 20, 45, 46, 47, 25, 48, 49, 50, 51, 52, 53, 54, 55, 56, 57, 58, 59, 60, 61, 62, 63, 64, 65, 66, 67, 68, 1, 21, 69, 70, 71, 72, 112, 113, 114, 115, 116, 95, 96, 97, 98, 99, 100, 101, 102, 103, 104, 105, 106, 107, 108, 109, 110, 111] (by decide +kernel) (by decide +kernel)
set_option maxRecDepth 20000 in
theorem gX3_reroute_X3_findWay : GoodIn wsX3_reroute (wsV RX3 107 RX3 yX3_findWay wsX3_findWay) := goodIn_app (goodIn_of _ (by decide +kernel)) ggX3_reroute_X3_findWay
set_option maxRecDepth 20000 in
theorem ggX3_reroute_X1_removeCall : GoodIn wsX3_reroute wsX1_removeCall := goodIn_r _ [76, 77, 78, 10, 79, 80, 81, 7, 82, 9, 57, 83, 15, 16, 17, 18, 19, 20, 84, 32, 33, 34, 35, 42, 43, 44, 85, 70, 71, 72, 95, 96, 97, 98, 99, 100, 101, 102, 103, 104, 105, 106, 107, 108, 109, 110, 111] (by decide +kernel) (by decide +kernel)
set_option maxRecDepth 20000 in
theorem gX3_reroute_X1_removeCall : GoodIn wsX3_reroute (wsV RX3 51 RX1 yX1_removeCall wsX1_removeCall) := goodIn_app (goodIn_of _ (by decide +kernel)) ggX3_reroute_X1_removeCall
set_option maxRecDepth 20000 in
theorem ggX3_reroute_X3_settle : GoodIn wsX3_reroute wsX3_settle := goodIn_r _ [89, 27, 68, 67, 30, 2, 21, 16, 17, 18, 19, 20, 90, 80, 81, 7, 82, 9, 57, 83, 78, 15, 84, 32, 33, 34, 35, 42, 43, 44, 85, 70, 71, 72, 91, 92, 93, 94, 112, 113, 114, 115, 116, 95, 96, 97, 98, 99, 100, 101, 102, 103, 104, 105, 106, 107, 108, 109, 110, 111] (by decide +kernel) (by decide +kernel)
set_option maxRecDepth 20000 in
theorem gX3_reroute_X3_settle : GoodIn wsX3_reroute (wsV RX3 33 RX3 yX3_settle wsX3_settle) := goodIn_app (goodIn_of _ (by decide +kernel)) ggX3_reroute_X3_settle
theorem dX3_reroute_0 : decode cX3_reroute 0 = .ok (.iconst 0, 1) := by decide +kernel
theorem dX3_reroute_1 : decode cX3_reroute 1 = .ok (.istore_n 2, 1) := by decide +kernel
theorem dX3_reroute_2 : decode cX3_reroute 2 = .ok (.iconst 0, 1) := by decide +kernel
theorem dX3_reroute_3 : decode cX3_reroute 3 = .ok (.istore_n 3, 1) := by decide +kernel
theorem dX3_reroute_4 : decode cX3_reroute 4 = .ok (.iload_n 3, 1) := by decide +kernel
theorem dX3_reroute_5 : decode cX3_reroute 5 = .ok (.bipush 48, 2) := by decide +kernel
theorem dX3_reroute_7 : decode cX3_reroute 7 = .ok (.if_icmp .ge 77, 3) := by decide +kernel
theorem dX3_reroute_10 : decode cX3_reroute 10 = .ok (.aload_n 1, 1) := by decide +kernel
theorem dX3_reroute_11 : decode cX3_reroute 11 = .ok (.invokevirtual 110, 3) := by decide +kernel
theorem dX3_reroute_14 : decode cX3_reroute 14 = .ok (.istore 4, 2) := by decide +kernel
theorem dX3_reroute_16 : decode cX3_reroute 16 = .ok (.iload 4, 2) := by decide +kernel
theorem dX3_reroute_18 : decode cX3_reroute 18 = .ok (.ifCond .ge 6, 3) := by decide +kernel
theorem dX3_reroute_21 : decode cX3_reroute 21 = .ok (.goto 63, 3) := by decide +kernel
theorem dX3_reroute_24 : decode cX3_reroute 24 = .ok (.aload_n 0, 1) := by decide +kernel
theorem dX3_reroute_25 : decode cX3_reroute 25 = .ok (.aload_n 1, 1) := by decide +kernel
theorem dX3_reroute_26 : decode cX3_reroute 26 = .ok (.iload 4, 2) := by decide +kernel
theorem dX3_reroute_28 : decode cX3_reroute 28 = .ok (.aload_n 1, 1) := by decide +kernel
theorem dX3_reroute_29 : decode cX3_reroute 29 = .ok (.getfield 113, 3) := by decide +kernel
theorem dX3_reroute_32 : decode cX3_reroute 32 = .ok (.iload 4, 2) := by decide +kernel
theorem dX3_reroute_34 : decode cX3_reroute 34 = .ok (.invokevirtual 47, 3) := by decide +kernel
theorem dX3_reroute_37 : decode cX3_reroute 37 = .ok (.invokevirtual 107, 3) := by decide +kernel
theorem dX3_reroute_40 : decode cX3_reroute 40 = .ok (.istore 5, 2) := by decide +kernel
theorem dX3_reroute_42 : decode cX3_reroute 42 = .ok (.iload 5, 2) := by decide +kernel
theorem dX3_reroute_44 : decode cX3_reroute 44 = .ok (.ifCond .ge 15, 3) := by decide +kernel
theorem dX3_reroute_47 : decode cX3_reroute 47 = .ok (.aload_n 1, 1) := by decide +kernel
theorem dX3_reroute_48 : decode cX3_reroute 48 = .ok (.iload 4, 2) := by decide +kernel
theorem dX3_reroute_50 : decode cX3_reroute 50 = .ok (.invokevirtual 51, 3) := by decide +kernel
theorem dX3_reroute_53 : decode cX3_reroute 53 = .ok (.iinc 2 1, 3) := by decide +kernel
theorem dX3_reroute_56 : decode cX3_reroute 56 = .ok (.goto 22, 3) := by decide +kernel
theorem dX3_reroute_59 : decode cX3_reroute 59 = .ok (.aload_n 0, 1) := by decide +kernel
theorem dX3_reroute_60 : decode cX3_reroute 60 = .ok (.aload_n 1, 1) := by decide +kernel
theorem dX3_reroute_61 : decode cX3_reroute 61 = .ok (.iload 4, 2) := by decide +kernel
theorem dX3_reroute_63 : decode cX3_reroute 63 = .ok (.iload 5, 2) := by decide +kernel
theorem dX3_reroute_65 : decode cX3_reroute 65 = .ok (.invokevirtual 33, 3) := by decide +kernel
theorem dX3_reroute_68 : decode cX3_reroute 68 = .ok (.aload_n 1, 1) := by decide +kernel
theorem dX3_reroute_69 : decode cX3_reroute 69 = .ok (.dup, 1) := by decide +kernel
theorem dX3_reroute_70 : decode cX3_reroute 70 = .ok (.getfield 87, 3) := by decide +kernel
theorem dX3_reroute_73 : decode cX3_reroute 73 = .ok (.iconst 1, 1) := by decide +kernel
theorem dX3_reroute_74 : decode cX3_reroute 74 = .ok (.iadd, 1) := by decide +kernel
theorem dX3_reroute_75 : decode cX3_reroute 75 = .ok (.putfield 87, 3) := by decide +kernel
theorem dX3_reroute_78 : decode cX3_reroute 78 = .ok (.iinc 3 1, 3) := by decide +kernel
theorem dX3_reroute_81 : decode cX3_reroute 81 = .ok (.goto (-77), 3) := by decide +kernel
theorem dX3_reroute_84 : decode cX3_reroute 84 = .ok (.aload_n 1, 1) := by decide +kernel
theorem dX3_reroute_85 : decode cX3_reroute 85 = .ok (.dup, 1) := by decide +kernel
theorem dX3_reroute_86 : decode cX3_reroute 86 = .ok (.getfield 116, 3) := by decide +kernel
theorem dX3_reroute_89 : decode cX3_reroute 89 = .ok (.iload_n 2, 1) := by decide +kernel
theorem dX3_reroute_90 : decode cX3_reroute 90 = .ok (.iadd, 1) := by decide +kernel
theorem dX3_reroute_91 : decode cX3_reroute 91 = .ok (.putfield 116, 3) := by decide +kernel
theorem dX3_reroute_94 : decode cX3_reroute 94 = .ok (.iload_n 2, 1) := by decide +kernel
theorem dX3_reroute_95 : decode cX3_reroute 95 = .ok (.ireturn, 1) := by decide +kernel
set_option maxRecDepth 20000 in
theorem ggX3_findWay_X1_boardOf : GoodIn wsX3_findWay wsX1_boardOf := goodIn_r _ [9, 10, 62, 63, 64, 65, 66, 67, 68, 69, 70, 71, 72, 73, 74, 75, 76, 77] (by decide +kernel) (by decide +kernel)
set_option maxRecDepth 20000 in
theorem gX3_findWay_X1_boardOf : GoodIn wsX3_findWay (wsV RX3 122 RX1 yX1_boardOf wsX1_boardOf) := goodIn_app (goodIn_of _ (by decide +kernel)) ggX3_findWay_X1_boardOf
set_option maxRecDepth 20000 in
theorem ggX3_findWay_X1_freeOnLinks : GoodIn wsX3_findWay wsX1_freeOnLinks := goodIn_r _ [14, 15, 16, 17, 18, 19, 20, 21, 22, 23, 24, 25, 62, 63, 64, 65, 66, 67, 68, 69, 70, 71, 72, 73, 74, 75, 76, 77, 78] (by decide +kernel) (by decide +kernel)
set_option maxRecDepth 20000 in
theorem gX3_findWay_X1_freeOnLinks : GoodIn wsX3_findWay (wsV RX3 128 RX1 yX1_freeOnLinks wsX1_freeOnLinks) := goodIn_app (goodIn_of _ (by decide +kernel)) ggX3_findWay_X1_freeOnLinks
set_option maxRecDepth 20000 in
theorem ggX3_findWay_X3_choose : GoodIn wsX3_findWay wsX3_choose := goodIn_r _ [30, 31, 32, 18, 33, 34, 35, 36, 8, 37, 38, 39, 17, 19, 20, 21, 22, 23, 24, 25, 62, 63, 64, 65, 66, 67, 68, 69, 70, 71, 72, 73, 74, 75, 76, 77, 78] (by decide +kernel) (by decide +kernel)
set_option maxRecDepth 20000 in
theorem gX3_findWay_X3_choose : GoodIn wsX3_findWay (wsV RX3 135 RX3 yX3_choose wsX3_choose) := goodIn_app (goodIn_of _ (by decide +kernel)) ggX3_findWay_X3_choose
set_option maxRecDepth 20000 in
theorem ggX3_findWay_X3_findPair : GoodIn wsX3_findWay wsX3_findPair := goodIn_r _ [43, 44, 1, 32, 18, 33, 45, 46, 47, 29, 48, 4, 49, 3, 2, 50, 51, 17, 19, 52, 21, 22, 23, 24, 25, 53, 54, 55, 56, 5, 6, 7, 8, 9, 10, 62, 63, 64, 65, 66, 67, 68, 69, 70, 71, 72, 73, 74, 75, 76, 77, 57, 58, 59, 60, 61, 78] (by decide +kernel) (by decide +kernel)
set_option maxRecDepth 20000 in
theorem gX3_findWay_X3_findPair : GoodIn wsX3_findWay (wsV RX3 139 RX3 yX3_findPair wsX3_findPair) := goodIn_app (goodIn_of _ (by decide +kernel)) ggX3_findWay_X3_findPair
theorem dX3_findWay_0 : decode cX3_findWay 0 = .ok (.aload_n 0, 1) := by decide +kernel
theorem dX3_findWay_1 : decode cX3_findWay 1 = .ok (.iconst 0, 1) := by decide +kernel
theorem dX3_findWay_2 : decode cX3_findWay 2 = .ok (.putfield 119, 3) := by decide +kernel
theorem dX3_findWay_5 : decode cX3_findWay 5 = .ok (.aload_n 1, 1) := by decide +kernel
theorem dX3_findWay_6 : decode cX3_findWay 6 = .ok (.iload_n 3, 1) := by decide +kernel
theorem dX3_findWay_7 : decode cX3_findWay 7 = .ok (.invokevirtual 122, 3) := by decide +kernel
theorem dX3_findWay_10 : decode cX3_findWay 10 = .ok (.istore 4, 2) := by decide +kernel
theorem dX3_findWay_12 : decode cX3_findWay 12 = .ok (.aload_n 1, 1) := by decide +kernel
theorem dX3_findWay_13 : decode cX3_findWay 13 = .ok (.aload_n 1, 1) := by decide +kernel
theorem dX3_findWay_14 : decode cX3_findWay 14 = .ok (.getfield 125, 3) := by decide +kernel
theorem dX3_findWay_17 : decode cX3_findWay 17 = .ok (.aload_n 1, 1) := by decide +kernel
theorem dX3_findWay_18 : decode cX3_findWay 18 = .ok (.iload_n 2, 1) := by decide +kernel
theorem dX3_findWay_19 : decode cX3_findWay 19 = .ok (.invokevirtual 122, 3) := by decide +kernel
theorem dX3_findWay_22 : decode cX3_findWay 22 = .ok (.invokevirtual 128, 3) := by decide +kernel
theorem dX3_findWay_25 : decode cX3_findWay 25 = .ok (.istore 5, 2) := by decide +kernel
theorem dX3_findWay_27 : decode cX3_findWay 27 = .ok (.aload_n 1, 1) := by decide +kernel
theorem dX3_findWay_28 : decode cX3_findWay 28 = .ok (.aload_n 1, 1) := by decide +kernel
theorem dX3_findWay_29 : decode cX3_findWay 29 = .ok (.getfield 132, 3) := by decide +kernel
theorem dX3_findWay_32 : decode cX3_findWay 32 = .ok (.iload 4, 2) := by decide +kernel
theorem dX3_findWay_34 : decode cX3_findWay 34 = .ok (.invokevirtual 128, 3) := by decide +kernel
theorem dX3_findWay_37 : decode cX3_findWay 37 = .ok (.istore 6, 2) := by decide +kernel
theorem dX3_findWay_39 : decode cX3_findWay 39 = .ok (.iload 5, 2) := by decide +kernel
theorem dX3_findWay_41 : decode cX3_findWay 41 = .ok (.iload 6, 2) := by decide +kernel
theorem dX3_findWay_43 : decode cX3_findWay 43 = .ok (.iand, 1) := by decide +kernel
theorem dX3_findWay_44 : decode cX3_findWay 44 = .ok (.ifCond .eq 14, 3) := by decide +kernel
theorem dX3_findWay_47 : decode cX3_findWay 47 = .ok (.aload_n 0, 1) := by decide +kernel
theorem dX3_findWay_48 : decode cX3_findWay 48 = .ok (.aload_n 1, 1) := by decide +kernel
theorem dX3_findWay_49 : decode cX3_findWay 49 = .ok (.iload 5, 2) := by decide +kernel
theorem dX3_findWay_51 : decode cX3_findWay 51 = .ok (.iload 6, 2) := by decide +kernel
theorem dX3_findWay_53 : decode cX3_findWay 53 = .ok (.iand, 1) := by decide +kernel
theorem dX3_findWay_54 : decode cX3_findWay 54 = .ok (.invokevirtual 135, 3) := by decide +kernel
theorem dX3_findWay_57 : decode cX3_findWay 57 = .ok (.ireturn, 1) := by decide +kernel
theorem dX3_findWay_58 : decode cX3_findWay 58 = .ok (.iload 5, 2) := by decide +kernel
theorem dX3_findWay_60 : decode cX3_findWay 60 = .ok (.ifCond .eq 8, 3) := by decide +kernel
theorem dX3_findWay_63 : decode cX3_findWay 63 = .ok (.iload 6, 2) := by decide +kernel
theorem dX3_findWay_65 : decode cX3_findWay 65 = .ok (.ifCond .ne 6, 3) := by decide +kernel
theorem dX3_findWay_68 : decode cX3_findWay 68 = .ok (.bipush (-4), 2) := by decide +kernel
theorem dX3_findWay_70 : decode cX3_findWay 70 = .ok (.ireturn, 1) := by decide +kernel
theorem dX3_findWay_71 : decode cX3_findWay 71 = .ok (.aload_n 0, 1) := by decide +kernel
theorem dX3_findWay_72 : decode cX3_findWay 72 = .ok (.aload_n 1, 1) := by decide +kernel
theorem dX3_findWay_73 : decode cX3_findWay 73 = .ok (.iload 5, 2) := by decide +kernel
theorem dX3_findWay_75 : decode cX3_findWay 75 = .ok (.iload 6, 2) := by decide +kernel
theorem dX3_findWay_77 : decode cX3_findWay 77 = .ok (.iload 4, 2) := by decide +kernel
theorem dX3_findWay_79 : decode cX3_findWay 79 = .ok (.invokevirtual 139, 3) := by decide +kernel
theorem dX3_findWay_82 : decode cX3_findWay 82 = .ok (.aload_n 0, 1) := by decide +kernel
theorem dX3_findWay_83 : decode cX3_findWay 83 = .ok (.getfield 143, 3) := by decide +kernel
theorem dX3_findWay_86 : decode cX3_findWay 86 = .ok (.ireturn, 1) := by decide +kernel
set_option maxRecDepth 20000 in
theorem ggX3_choose_X5_hasBit : GoodIn wsX3_choose wsX5_hasBit := goodIn_r _ [4] (by decide +kernel) (by decide +kernel)
set_option maxRecDepth 20000 in
theorem gX3_choose_X5_hasBit_n64 : GoodIn wsX3_choose (wsX5_hasBit) := ggX3_choose_X5_hasBit
set_option maxRecDepth 20000 in
theorem ggX3_choose_X1_loadOf : GoodIn wsX3_choose wsX1_loadOf := goodIn_r _ [9, 10, 11, 12, 3, 13, 14, 15, 16, 17, 18, 19, 20, 21, 22, 23, 24, 25, 26, 27, 28, 29, 30, 31, 32, 33, 34, 35, 36] (by decide +kernel) (by decide +kernel)
set_option maxRecDepth 20000 in
theorem gX3_choose_X1_loadOf : GoodIn wsX3_choose (wsV RX3 149 RX1 yX1_loadOf wsX1_loadOf) := goodIn_app (goodIn_of _ (by decide +kernel)) ggX3_choose_X1_loadOf
theorem dX3_choose_0 : decode cX3_choose 0 = .ok (.aload_n 1, 1) := by decide +kernel
theorem dX3_choose_1 : decode cX3_choose 1 = .ok (.getfield 146, 3) := by decide +kernel
theorem dX3_choose_4 : decode cX3_choose 4 = .ok (.iconst 1, 1) := by decide +kernel
theorem dX3_choose_5 : decode cX3_choose 5 = .ok (.if_icmp .ne 7, 3) := by decide +kernel
theorem dX3_choose_8 : decode cX3_choose 8 = .ok (.iconst 1, 1) := by decide +kernel
theorem dX3_choose_9 : decode cX3_choose 9 = .ok (.goto 16, 3) := by decide +kernel
theorem dX3_choose_12 : decode cX3_choose 12 = .ok (.aload_n 1, 1) := by decide +kernel
theorem dX3_choose_13 : decode cX3_choose 13 = .ok (.getfield 146, 3) := by decide +kernel
theorem dX3_choose_16 : decode cX3_choose 16 = .ok (.iconst 2, 1) := by decide +kernel
theorem dX3_choose_17 : decode cX3_choose 17 = .ok (.if_icmp .ne 7, 3) := by decide +kernel
theorem dX3_choose_20 : decode cX3_choose 20 = .ok (.iconst (-1), 1) := by decide +kernel
theorem dX3_choose_21 : decode cX3_choose 21 = .ok (.goto 4, 3) := by decide +kernel
theorem dX3_choose_24 : decode cX3_choose 24 = .ok (.iconst 0, 1) := by decide +kernel
theorem dX3_choose_25 : decode cX3_choose 25 = .ok (.istore_n 3, 1) := by decide +kernel
theorem dX3_choose_26 : decode cX3_choose 26 = .ok (.bipush (-6), 2) := by decide +kernel
theorem dX3_choose_28 : decode cX3_choose 28 = .ok (.istore 4, 2) := by decide +kernel
theorem dX3_choose_30 : decode cX3_choose 30 = .ok (.iconst 0, 1) := by decide +kernel
theorem dX3_choose_31 : decode cX3_choose 31 = .ok (.istore 5, 2) := by decide +kernel
theorem dX3_choose_33 : decode cX3_choose 33 = .ok (.iconst 0, 1) := by decide +kernel
theorem dX3_choose_34 : decode cX3_choose 34 = .ok (.istore 6, 2) := by decide +kernel
theorem dX3_choose_36 : decode cX3_choose 36 = .ok (.iload 6, 2) := by decide +kernel
theorem dX3_choose_38 : decode cX3_choose 38 = .ok (.bipush 8, 2) := by decide +kernel
theorem dX3_choose_40 : decode cX3_choose 40 = .ok (.if_icmp .ge 48, 3) := by decide +kernel
theorem dX3_choose_43 : decode cX3_choose 43 = .ok (.iload_n 2, 1) := by decide +kernel
theorem dX3_choose_44 : decode cX3_choose 44 = .ok (.iload 6, 2) := by decide +kernel
theorem dX3_choose_46 : decode cX3_choose 46 = .ok (.invokestatic 64, 3) := by decide +kernel
theorem dX3_choose_49 : decode cX3_choose 49 = .ok (.ifCond .eq 33, 3) := by decide +kernel
theorem dX3_choose_52 : decode cX3_choose 52 = .ok (.iload_n 3, 1) := by decide +kernel
theorem dX3_choose_53 : decode cX3_choose 53 = .ok (.aload_n 1, 1) := by decide +kernel
theorem dX3_choose_54 : decode cX3_choose 54 = .ok (.iload 6, 2) := by decide +kernel
theorem dX3_choose_56 : decode cX3_choose 56 = .ok (.invokevirtual 149, 3) := by decide +kernel
theorem dX3_choose_59 : decode cX3_choose 59 = .ok (.imul, 1) := by decide +kernel
theorem dX3_choose_60 : decode cX3_choose 60 = .ok (.istore 7, 2) := by decide +kernel
theorem dX3_choose_62 : decode cX3_choose 62 = .ok (.iload 4, 2) := by decide +kernel
theorem dX3_choose_64 : decode cX3_choose 64 = .ok (.ifCond .lt 10, 3) := by decide +kernel
theorem dX3_choose_67 : decode cX3_choose 67 = .ok (.iload 7, 2) := by decide +kernel
theorem dX3_choose_69 : decode cX3_choose 69 = .ok (.iload 5, 2) := by decide +kernel
theorem dX3_choose_71 : decode cX3_choose 71 = .ok (.if_icmp .le 11, 3) := by decide +kernel
theorem dX3_choose_74 : decode cX3_choose 74 = .ok (.iload 6, 2) := by decide +kernel
theorem dX3_choose_76 : decode cX3_choose 76 = .ok (.istore 4, 2) := by decide +kernel
theorem dX3_choose_78 : decode cX3_choose 78 = .ok (.iload 7, 2) := by decide +kernel
theorem dX3_choose_80 : decode cX3_choose 80 = .ok (.istore 5, 2) := by decide +kernel
theorem dX3_choose_82 : decode cX3_choose 82 = .ok (.iinc 6 1, 3) := by decide +kernel
theorem dX3_choose_85 : decode cX3_choose 85 = .ok (.goto (-49), 3) := by decide +kernel
theorem dX3_choose_88 : decode cX3_choose 88 = .ok (.iload 4, 2) := by decide +kernel
theorem dX3_choose_90 : decode cX3_choose 90 = .ok (.ireturn, 1) := by decide +kernel
set_option maxRecDepth 20000 in
theorem ggX3_findPair_X5_hasBit : GoodIn wsX3_findPair wsX5_hasBit := goodIn_r _ [5] (by decide +kernel) (by decide +kernel)
set_option maxRecDepth 20000 in
theorem gX3_findPair_X5_hasBit_n64 : GoodIn wsX3_findPair (wsX5_hasBit) := ggX3_findPair_X5_hasBit
set_option maxRecDepth 20000 in
theorem ggX3_findPair_X3_follow : GoodIn wsX3_findPair wsX3_follow := goodIn_r _ [10, 11, 12, 2, 13, 14, 15, 16, 17, 4, 18, 19, 20, 21, 22, 23, 24, 25, 26, 27, 28, 29, 30, 31, 32, 33, 34, 51, 52, 53, 54, 55, 35, 36, 37, 38, 39, 40, 41, 42, 43, 44, 45, 46, 47, 48, 49, 50, 56] (by decide +kernel) (by decide +kernel)
set_option maxRecDepth 20000 in
theorem gX3_findPair_X3_follow : GoodIn wsX3_findPair (wsV RX3 152 RX3 yX3_follow wsX3_follow) := goodIn_app (goodIn_of _ (by decide +kernel)) ggX3_findPair_X3_follow
theorem dX3_findPair_0 : decode cX3_findPair 0 = .ok (.bipush (-6), 2) := by decide +kernel
theorem dX3_findPair_2 : decode cX3_findPair 2 = .ok (.istore 5, 2) := by decide +kernel
theorem dX3_findPair_4 : decode cX3_findPair 4 = .ok (.bipush (-6), 2) := by decide +kernel
theorem dX3_findPair_6 : decode cX3_findPair 6 = .ok (.istore 6, 2) := by decide +kernel
theorem dX3_findPair_8 : decode cX3_findPair 8 = .ok (.iconst 0, 1) := by decide +kernel
theorem dX3_findPair_9 : decode cX3_findPair 9 = .ok (.istore 7, 2) := by decide +kernel
theorem dX3_findPair_11 : decode cX3_findPair 11 = .ok (.iconst 0, 1) := by decide +kernel
theorem dX3_findPair_12 : decode cX3_findPair 12 = .ok (.istore 8, 2) := by decide +kernel
theorem dX3_findPair_14 : decode cX3_findPair 14 = .ok (.iload 8, 2) := by decide +kernel
theorem dX3_findPair_16 : decode cX3_findPair 16 = .ok (.bipush 64, 2) := by decide +kernel
theorem dX3_findPair_18 : decode cX3_findPair 18 = .ok (.if_icmp .ge 88, 3) := by decide +kernel
theorem dX3_findPair_21 : decode cX3_findPair 21 = .ok (.iload 8, 2) := by decide +kernel
theorem dX3_findPair_23 : decode cX3_findPair 23 = .ok (.bipush 8, 2) := by decide +kernel
theorem dX3_findPair_25 : decode cX3_findPair 25 = .ok (.idiv, 1) := by decide +kernel
theorem dX3_findPair_26 : decode cX3_findPair 26 = .ok (.istore 9, 2) := by decide +kernel
theorem dX3_findPair_28 : decode cX3_findPair 28 = .ok (.iload 8, 2) := by decide +kernel
theorem dX3_findPair_30 : decode cX3_findPair 30 = .ok (.bipush 8, 2) := by decide +kernel
theorem dX3_findPair_32 : decode cX3_findPair 32 = .ok (.irem, 1) := by decide +kernel
theorem dX3_findPair_33 : decode cX3_findPair 33 = .ok (.istore 10, 2) := by decide +kernel
theorem dX3_findPair_35 : decode cX3_findPair 35 = .ok (.iload_n 2, 1) := by decide +kernel
theorem dX3_findPair_36 : decode cX3_findPair 36 = .ok (.iload 9, 2) := by decide +kernel
theorem dX3_findPair_38 : decode cX3_findPair 38 = .ok (.invokestatic 64, 3) := by decide +kernel
theorem dX3_findPair_41 : decode cX3_findPair 41 = .ok (.ifCond .eq 59, 3) := by decide +kernel
theorem dX3_findPair_44 : decode cX3_findPair 44 = .ok (.iload_n 3, 1) := by decide +kernel
theorem dX3_findPair_45 : decode cX3_findPair 45 = .ok (.iload 10, 2) := by decide +kernel
theorem dX3_findPair_47 : decode cX3_findPair 47 = .ok (.invokestatic 64, 3) := by decide +kernel
theorem dX3_findPair_50 : decode cX3_findPair 50 = .ok (.ifCond .eq 50, 3) := by decide +kernel
theorem dX3_findPair_53 : decode cX3_findPair 53 = .ok (.aload_n 0, 1) := by decide +kernel
theorem dX3_findPair_54 : decode cX3_findPair 54 = .ok (.aload_n 1, 1) := by decide +kernel
theorem dX3_findPair_55 : decode cX3_findPair 55 = .ok (.iload 9, 2) := by decide +kernel
theorem dX3_findPair_57 : decode cX3_findPair 57 = .ok (.iload 10, 2) := by decide +kernel
theorem dX3_findPair_59 : decode cX3_findPair 59 = .ok (.iload 4, 2) := by decide +kernel
theorem dX3_findPair_61 : decode cX3_findPair 61 = .ok (.invokevirtual 152, 3) := by decide +kernel
theorem dX3_findPair_64 : decode cX3_findPair 64 = .ok (.iload 5, 2) := by decide +kernel
theorem dX3_findPair_66 : decode cX3_findPair 66 = .ok (.ifCond .lt 20, 3) := by decide +kernel
theorem dX3_findPair_69 : decode cX3_findPair 69 = .ok (.aload_n 1, 1) := by decide +kernel
theorem dX3_findPair_70 : decode cX3_findPair 70 = .ok (.getfield 155, 3) := by decide +kernel
theorem dX3_findPair_73 : decode cX3_findPair 73 = .ok (.iconst 1, 1) := by decide +kernel
theorem dX3_findPair_74 : decode cX3_findPair 74 = .ok (.if_icmp .ne 26, 3) := by decide +kernel
theorem dX3_findPair_77 : decode cX3_findPair 77 = .ok (.aload_n 0, 1) := by decide +kernel
theorem dX3_findPair_78 : decode cX3_findPair 78 = .ok (.getfield 119, 3) := by decide +kernel
theorem dX3_findPair_81 : decode cX3_findPair 81 = .ok (.iload 7, 2) := by decide +kernel
theorem dX3_findPair_83 : decode cX3_findPair 83 = .ok (.if_icmp .ge 17, 3) := by decide +kernel
theorem dX3_findPair_86 : decode cX3_findPair 86 = .ok (.iload 9, 2) := by decide +kernel
theorem dX3_findPair_88 : decode cX3_findPair 88 = .ok (.istore 5, 2) := by decide +kernel
theorem dX3_findPair_90 : decode cX3_findPair 90 = .ok (.iload 10, 2) := by decide +kernel
theorem dX3_findPair_92 : decode cX3_findPair 92 = .ok (.istore 6, 2) := by decide +kernel
theorem dX3_findPair_94 : decode cX3_findPair 94 = .ok (.aload_n 0, 1) := by decide +kernel
theorem dX3_findPair_95 : decode cX3_findPair 95 = .ok (.getfield 119, 3) := by decide +kernel
theorem dX3_findPair_98 : decode cX3_findPair 98 = .ok (.istore 7, 2) := by decide +kernel
theorem dX3_findPair_100 : decode cX3_findPair 100 = .ok (.iinc 8 1, 3) := by decide +kernel
theorem dX3_findPair_103 : decode cX3_findPair 103 = .ok (.goto (-89), 3) := by decide +kernel
theorem dX3_findPair_106 : decode cX3_findPair 106 = .ok (.aload_n 0, 1) := by decide +kernel
theorem dX3_findPair_107 : decode cX3_findPair 107 = .ok (.aload_n 1, 1) := by decide +kernel
theorem dX3_findPair_108 : decode cX3_findPair 108 = .ok (.iload 5, 2) := by decide +kernel
theorem dX3_findPair_110 : decode cX3_findPair 110 = .ok (.iload 6, 2) := by decide +kernel
theorem dX3_findPair_112 : decode cX3_findPair 112 = .ok (.iload 4, 2) := by decide +kernel
theorem dX3_findPair_114 : decode cX3_findPair 114 = .ok (.invokevirtual 152, 3) := by decide +kernel
theorem dX3_findPair_117 : decode cX3_findPair 117 = .ok (.return_, 1) := by decide +kernel
set_option maxRecDepth 20000 in
theorem ggX3_follow_X5_link : GoodIn wsX3_follow wsX5_link := goodIn_r _ [10] (by decide +kernel) (by decide +kernel)
set_option maxRecDepth 20000 in
theorem gX3_follow_X5_link_n161 : GoodIn wsX3_follow (wsX5_link) := ggX3_follow_X5_link
set_option maxRecDepth 20000 in
theorem ggX3_follow_X4_get : GoodIn wsX3_follow wsX4_get := goodIn_r _ [15, 16, 48] (by decide +kernel) (by decide +kernel)
set_option maxRecDepth 20000 in
theorem gX3_follow_X4_get : GoodIn wsX3_follow (wsV RX3 47 RX4 yX4_get wsX4_get) := goodIn_app (goodIn_of _ (by decide +kernel)) ggX3_follow_X4_get
set_option maxRecDepth 20000 in
theorem ggX3_follow_X4_set : GoodIn wsX3_follow wsX4_set := goodIn_r _ [20, 16, 48] (by decide +kernel) (by decide +kernel)
set_option maxRecDepth 20000 in
theorem gX3_follow_X4_set : GoodIn wsX3_follow (wsV RX3 164 RX4 yX4_set wsX4_set) := goodIn_app (goodIn_of _ (by decide +kernel)) ggX3_follow_X4_set
set_option maxRecDepth 20000 in
theorem ggX3_follow_X1_boardOf : GoodIn wsX3_follow wsX1_boardOf := goodIn_r _ [25, 26, 32, 33, 34, 35, 36, 37, 38, 39, 40, 41, 42, 43, 44, 45, 46, 47] (by decide +kernel) (by decide +kernel)
set_option maxRecDepth 20000 in
theorem gX3_follow_X1_boardOf : GoodIn wsX3_follow (wsV RX3 122 RX1 yX1_boardOf wsX1_boardOf) := goodIn_app (goodIn_of _ (by decide +kernel)) ggX3_follow_X1_boardOf
theorem dX3_follow_0 : decode cX3_follow 0 = .ok (.aload_n 0, 1) := by decide +kernel
theorem dX3_follow_1 : decode cX3_follow 1 = .ok (.iload_n 2, 1) := by decide +kernel
theorem dX3_follow_2 : decode cX3_follow 2 = .ok (.putfield 143, 3) := by decide +kernel
theorem dX3_follow_5 : decode cX3_follow 5 = .ok (.aload_n 0, 1) := by decide +kernel
theorem dX3_follow_6 : decode cX3_follow 6 = .ok (.iload_n 3, 1) := by decide +kernel
theorem dX3_follow_7 : decode cX3_follow 7 = .ok (.putfield 158, 3) := by decide +kernel
theorem dX3_follow_10 : decode cX3_follow 10 = .ok (.aload_n 0, 1) := by decide +kernel
theorem dX3_follow_11 : decode cX3_follow 11 = .ok (.iconst 0, 1) := by decide +kernel
theorem dX3_follow_12 : decode cX3_follow 12 = .ok (.putfield 119, 3) := by decide +kernel
theorem dX3_follow_15 : decode cX3_follow 15 = .ok (.iload 4, 2) := by decide +kernel
theorem dX3_follow_17 : decode cX3_follow 17 = .ok (.istore 5, 2) := by decide +kernel
theorem dX3_follow_19 : decode cX3_follow 19 = .ok (.iconst 0, 1) := by decide +kernel
theorem dX3_follow_20 : decode cX3_follow 20 = .ok (.istore 6, 2) := by decide +kernel
theorem dX3_follow_22 : decode cX3_follow 22 = .ok (.iload 6, 2) := by decide +kernel
theorem dX3_follow_24 : decode cX3_follow 24 = .ok (.bipush 16, 2) := by decide +kernel
theorem dX3_follow_26 : decode cX3_follow 26 = .ok (.if_icmp .ge 113, 3) := by decide +kernel
theorem dX3_follow_29 : decode cX3_follow 29 = .ok (.iload 6, 2) := by decide +kernel
theorem dX3_follow_31 : decode cX3_follow 31 = .ok (.iconst 2, 1) := by decide +kernel
theorem dX3_follow_32 : decode cX3_follow 32 = .ok (.irem, 1) := by decide +kernel
theorem dX3_follow_33 : decode cX3_follow 33 = .ok (.ifCond .ne 7, 3) := by decide +kernel
theorem dX3_follow_36 : decode cX3_follow 36 = .ok (.iconst 1, 1) := by decide +kernel
theorem dX3_follow_37 : decode cX3_follow 37 = .ok (.goto 4, 3) := by decide +kernel
theorem dX3_follow_40 : decode cX3_follow 40 = .ok (.iconst 0, 1) := by decide +kernel
theorem dX3_follow_41 : decode cX3_follow 41 = .ok (.istore 7, 2) := by decide +kernel
theorem dX3_follow_43 : decode cX3_follow 43 = .ok (.iload 7, 2) := by decide +kernel
theorem dX3_follow_45 : decode cX3_follow 45 = .ok (.ifCond .eq 19, 3) := by decide +kernel
theorem dX3_follow_48 : decode cX3_follow 48 = .ok (.aload_n 1, 1) := by decide +kernel
theorem dX3_follow_49 : decode cX3_follow 49 = .ok (.getfield 132, 3) := by decide +kernel
theorem dX3_follow_52 : decode cX3_follow 52 = .ok (.iload 5, 2) := by decide +kernel
theorem dX3_follow_54 : decode cX3_follow 54 = .ok (.iload_n 2, 1) := by decide +kernel
theorem dX3_follow_55 : decode cX3_follow 55 = .ok (.invokestatic 161, 3) := by decide +kernel
theorem dX3_follow_58 : decode cX3_follow 58 = .ok (.invokevirtual 47, 3) := by decide +kernel
theorem dX3_follow_61 : decode cX3_follow 61 = .ok (.goto 16, 3) := by decide +kernel
theorem dX3_follow_64 : decode cX3_follow 64 = .ok (.aload_n 1, 1) := by decide +kernel
theorem dX3_follow_65 : decode cX3_follow 65 = .ok (.getfield 125, 3) := by decide +kernel
theorem dX3_follow_68 : decode cX3_follow 68 = .ok (.iload 5, 2) := by decide +kernel
theorem dX3_follow_70 : decode cX3_follow 70 = .ok (.iload_n 3, 1) := by decide +kernel
theorem dX3_follow_71 : decode cX3_follow 71 = .ok (.invokestatic 161, 3) := by decide +kernel
theorem dX3_follow_74 : decode cX3_follow 74 = .ok (.invokevirtual 47, 3) := by decide +kernel
theorem dX3_follow_77 : decode cX3_follow 77 = .ok (.istore 8, 2) := by decide +kernel
theorem dX3_follow_79 : decode cX3_follow 79 = .ok (.iload 8, 2) := by decide +kernel
theorem dX3_follow_81 : decode cX3_follow 81 = .ok (.ifCond .ge 6, 3) := by decide +kernel
theorem dX3_follow_84 : decode cX3_follow 84 = .ok (.goto 55, 3) := by decide +kernel
theorem dX3_follow_87 : decode cX3_follow 87 = .ok (.aload_n 0, 1) := by decide +kernel
theorem dX3_follow_88 : decode cX3_follow 88 = .ok (.getfield 14, 3) := by decide +kernel
theorem dX3_follow_91 : decode cX3_follow 91 = .ok (.iload 6, 2) := by decide +kernel
theorem dX3_follow_93 : decode cX3_follow 93 = .ok (.iload 8, 2) := by decide +kernel
theorem dX3_follow_95 : decode cX3_follow 95 = .ok (.invokevirtual 164, 3) := by decide +kernel
theorem dX3_follow_98 : decode cX3_follow 98 = .ok (.aload_n 0, 1) := by decide +kernel
theorem dX3_follow_99 : decode cX3_follow 99 = .ok (.dup, 1) := by decide +kernel
theorem dX3_follow_100 : decode cX3_follow 100 = .ok (.getfield 119, 3) := by decide +kernel
theorem dX3_follow_103 : decode cX3_follow 103 = .ok (.iconst 1, 1) := by decide +kernel
theorem dX3_follow_104 : decode cX3_follow 104 = .ok (.iadd, 1) := by decide +kernel
theorem dX3_follow_105 : decode cX3_follow 105 = .ok (.putfield 119, 3) := by decide +kernel
theorem dX3_follow_108 : decode cX3_follow 108 = .ok (.aload_n 1, 1) := by decide +kernel
theorem dX3_follow_109 : decode cX3_follow 109 = .ok (.iload 7, 2) := by decide +kernel
theorem dX3_follow_111 : decode cX3_follow 111 = .ok (.ifCond .eq 8, 3) := by decide +kernel
theorem dX3_follow_114 : decode cX3_follow 114 = .ok (.iload 8, 2) := by decide +kernel
theorem dX3_follow_116 : decode cX3_follow 116 = .ok (.goto 12, 3) := by decide +kernel
theorem dX3_follow_119 : decode cX3_follow 119 = .ok (.aload_n 1, 1) := by decide +kernel
theorem dX3_follow_120 : decode cX3_follow 120 = .ok (.getfield 113, 3) := by decide +kernel
theorem dX3_follow_123 : decode cX3_follow 123 = .ok (.iload 8, 2) := by decide +kernel
theorem dX3_follow_125 : decode cX3_follow 125 = .ok (.invokevirtual 47, 3) := by decide +kernel
theorem dX3_follow_128 : decode cX3_follow 128 = .ok (.invokevirtual 122, 3) := by decide +kernel
theorem dX3_follow_131 : decode cX3_follow 131 = .ok (.istore 5, 2) := by decide +kernel
theorem dX3_follow_133 : decode cX3_follow 133 = .ok (.iinc 6 1, 3) := by decide +kernel
theorem dX3_follow_136 : decode cX3_follow 136 = .ok (.goto (-114), 3) := by decide +kernel
theorem dX3_follow_139 : decode cX3_follow 139 = .ok (.return_, 1) := by decide +kernel
set_option maxRecDepth 20000 in
theorem ggX3_settle_X4_get : GoodIn wsX3_settle wsX4_get := goodIn_r _ [10, 11, 59] (by decide +kernel) (by decide +kernel)
set_option maxRecDepth 20000 in
theorem gX3_settle_X4_get : GoodIn wsX3_settle (wsV RX3 47 RX4 yX4_get wsX4_get) := goodIn_app (goodIn_of _ (by decide +kernel)) ggX3_settle_X4_get
set_option maxRecDepth 20000 in
theorem ggX3_settle_X1_liftCall : GoodIn wsX3_settle wsX1_liftCall := goodIn_r _ [16, 17, 18, 19, 20, 21, 7, 8, 9, 10, 11, 22, 23, 24, 15, 25, 26, 27, 28, 29, 30, 31, 32, 33, 43, 44, 45, 46, 47, 48, 49, 50, 51, 52, 53, 54, 55, 56, 57, 58, 59] (by decide +kernel) (by decide +kernel)
set_option maxRecDepth 20000 in
theorem gX3_settle_X1_liftCall : GoodIn wsX3_settle (wsV RX3 71 RX1 yX1_liftCall wsX1_liftCall) := goodIn_app (goodIn_of _ (by decide +kernel)) ggX3_settle_X1_liftCall
set_option maxRecDepth 20000 in
theorem ggX3_settle_X1_carryCall : GoodIn wsX3_settle wsX1_carryCall := goodIn_r _ [37, 17, 18, 19, 20, 30, 31, 32, 9, 33, 11, 22, 23, 24, 15, 25, 26, 27, 28, 29, 21, 7, 8, 10, 43, 44, 45, 46, 47, 48, 49, 50, 51, 52, 53, 54, 55, 56, 57, 58, 59] (by decide +kernel) (by decide +kernel)
set_option maxRecDepth 20000 in
theorem gX3_settle_X1_carryCall : GoodIn wsX3_settle (wsV RX3 167 RX1 yX1_carryCall wsX1_carryCall) := goodIn_app (goodIn_of _ (by decide +kernel)) ggX3_settle_X1_carryCall
theorem dX3_settle_0 : decode cX3_settle 0 = .ok (.iconst 0, 1) := by decide +kernel
theorem dX3_settle_1 : decode cX3_settle 1 = .ok (.istore 4, 2) := by decide +kernel
theorem dX3_settle_3 : decode cX3_settle 3 = .ok (.iload 4, 2) := by decide +kernel
theorem dX3_settle_5 : decode cX3_settle 5 = .ok (.aload_n 0, 1) := by decide +kernel
theorem dX3_settle_6 : decode cX3_settle 6 = .ok (.getfield 119, 3) := by decide +kernel
theorem dX3_settle_9 : decode cX3_settle 9 = .ok (.if_icmp .ge 22, 3) := by decide +kernel
theorem dX3_settle_12 : decode cX3_settle 12 = .ok (.aload_n 1, 1) := by decide +kernel
theorem dX3_settle_13 : decode cX3_settle 13 = .ok (.aload_n 0, 1) := by decide +kernel
theorem dX3_settle_14 : decode cX3_settle 14 = .ok (.getfield 14, 3) := by decide +kernel
theorem dX3_settle_17 : decode cX3_settle 17 = .ok (.iload 4, 2) := by decide +kernel
theorem dX3_settle_19 : decode cX3_settle 19 = .ok (.invokevirtual 47, 3) := by decide +kernel
theorem dX3_settle_22 : decode cX3_settle 22 = .ok (.invokevirtual 71, 3) := by decide +kernel
theorem dX3_settle_25 : decode cX3_settle 25 = .ok (.iinc 4 1, 3) := by decide +kernel
theorem dX3_settle_28 : decode cX3_settle 28 = .ok (.goto (-25), 3) := by decide +kernel
theorem dX3_settle_31 : decode cX3_settle 31 = .ok (.iconst 0, 1) := by decide +kernel
theorem dX3_settle_32 : decode cX3_settle 32 = .ok (.istore 4, 2) := by decide +kernel
theorem dX3_settle_34 : decode cX3_settle 34 = .ok (.iload 4, 2) := by decide +kernel
theorem dX3_settle_36 : decode cX3_settle 36 = .ok (.aload_n 0, 1) := by decide +kernel
theorem dX3_settle_37 : decode cX3_settle 37 = .ok (.getfield 119, 3) := by decide +kernel
theorem dX3_settle_40 : decode cX3_settle 40 = .ok (.if_icmp .ge 40, 3) := by decide +kernel
theorem dX3_settle_43 : decode cX3_settle 43 = .ok (.aload_n 1, 1) := by decide +kernel
theorem dX3_settle_44 : decode cX3_settle 44 = .ok (.aload_n 0, 1) := by decide +kernel
theorem dX3_settle_45 : decode cX3_settle 45 = .ok (.getfield 14, 3) := by decide +kernel
theorem dX3_settle_48 : decode cX3_settle 48 = .ok (.iload 4, 2) := by decide +kernel
theorem dX3_settle_50 : decode cX3_settle 50 = .ok (.invokevirtual 47, 3) := by decide +kernel
theorem dX3_settle_53 : decode cX3_settle 53 = .ok (.iload 4, 2) := by decide +kernel
theorem dX3_settle_55 : decode cX3_settle 55 = .ok (.iconst 2, 1) := by decide +kernel
theorem dX3_settle_56 : decode cX3_settle 56 = .ok (.irem, 1) := by decide +kernel
theorem dX3_settle_57 : decode cX3_settle 57 = .ok (.ifCond .ne 10, 3) := by decide +kernel
theorem dX3_settle_60 : decode cX3_settle 60 = .ok (.aload_n 0, 1) := by decide +kernel
theorem dX3_settle_61 : decode cX3_settle 61 = .ok (.getfield 158, 3) := by decide +kernel
theorem dX3_settle_64 : decode cX3_settle 64 = .ok (.goto 7, 3) := by decide +kernel
theorem dX3_settle_67 : decode cX3_settle 67 = .ok (.aload_n 0, 1) := by decide +kernel
theorem dX3_settle_68 : decode cX3_settle 68 = .ok (.getfield 143, 3) := by decide +kernel
theorem dX3_settle_71 : decode cX3_settle 71 = .ok (.invokevirtual 167, 3) := by decide +kernel
theorem dX3_settle_74 : decode cX3_settle 74 = .ok (.iinc 4 1, 3) := by decide +kernel
theorem dX3_settle_77 : decode cX3_settle 77 = .ok (.goto (-43), 3) := by decide +kernel
theorem dX3_settle_80 : decode cX3_settle 80 = .ok (.aload_n 1, 1) := by decide +kernel
theorem dX3_settle_81 : decode cX3_settle 81 = .ok (.dup, 1) := by decide +kernel
theorem dX3_settle_82 : decode cX3_settle 82 = .ok (.getfield 87, 3) := by decide +kernel
theorem dX3_settle_85 : decode cX3_settle 85 = .ok (.aload_n 0, 1) := by decide +kernel
theorem dX3_settle_86 : decode cX3_settle 86 = .ok (.getfield 119, 3) := by decide +kernel
theorem dX3_settle_89 : decode cX3_settle 89 = .ok (.iadd, 1) := by decide +kernel
theorem dX3_settle_90 : decode cX3_settle 90 = .ok (.putfield 87, 3) := by decide +kernel
theorem dX3_settle_93 : decode cX3_settle 93 = .ok (.aload_n 1, 1) := by decide +kernel
theorem dX3_settle_94 : decode cX3_settle 94 = .ok (.iload_n 2, 1) := by decide +kernel
theorem dX3_settle_95 : decode cX3_settle 95 = .ok (.iload_n 3, 1) := by decide +kernel
theorem dX3_settle_96 : decode cX3_settle 96 = .ok (.invokevirtual 167, 3) := by decide +kernel
theorem dX3_settle_99 : decode cX3_settle 99 = .ok (.return_, 1) := by decide +kernel
set_option maxRecDepth 20000 in
theorem ggX3_countChanged_X4_get : GoodIn wsX3_countChanged wsX4_get := goodIn_r _ [7, 8, 30] (by decide +kernel) (by decide +kernel)
set_option maxRecDepth 20000 in
theorem gX3_countChanged_X4_get : GoodIn wsX3_countChanged (wsV RX3 47 RX4 yX4_get wsX4_get) := goodIn_app (goodIn_of _ (by decide +kernel)) ggX3_countChanged_X4_get
theorem dX3_countChanged_0 : decode cX3_countChanged 0 = .ok (.iconst 0, 1) := by decide +kernel
theorem dX3_countChanged_1 : decode cX3_countChanged 1 = .ok (.istore_n 2, 1) := by decide +kernel
theorem dX3_countChanged_2 : decode cX3_countChanged 2 = .ok (.iconst 0, 1) := by decide +kernel
theorem dX3_countChanged_3 : decode cX3_countChanged 3 = .ok (.istore_n 3, 1) := by decide +kernel
theorem dX3_countChanged_4 : decode cX3_countChanged 4 = .ok (.iload_n 3, 1) := by decide +kernel
theorem dX3_countChanged_5 : decode cX3_countChanged 5 = .ok (.bipush 48, 2) := by decide +kernel
theorem dX3_countChanged_7 : decode cX3_countChanged 7 = .ok (.if_icmp .ge 36, 3) := by decide +kernel
theorem dX3_countChanged_10 : decode cX3_countChanged 10 = .ok (.iload_n 2, 1) := by decide +kernel
theorem dX3_countChanged_11 : decode cX3_countChanged 11 = .ok (.aload_n 1, 1) := by decide +kernel
theorem dX3_countChanged_12 : decode cX3_countChanged 12 = .ok (.getfield 68, 3) := by decide +kernel
theorem dX3_countChanged_15 : decode cX3_countChanged 15 = .ok (.iload_n 3, 1) := by decide +kernel
theorem dX3_countChanged_16 : decode cX3_countChanged 16 = .ok (.invokevirtual 47, 3) := by decide +kernel
theorem dX3_countChanged_19 : decode cX3_countChanged 19 = .ok (.aload_n 0, 1) := by decide +kernel
theorem dX3_countChanged_20 : decode cX3_countChanged 20 = .ok (.getfield 20, 3) := by decide +kernel
theorem dX3_countChanged_23 : decode cX3_countChanged 23 = .ok (.iload_n 3, 1) := by decide +kernel
theorem dX3_countChanged_24 : decode cX3_countChanged 24 = .ok (.invokevirtual 47, 3) := by decide +kernel
theorem dX3_countChanged_27 : decode cX3_countChanged 27 = .ok (.if_icmp .eq 7, 3) := by decide +kernel
theorem dX3_countChanged_30 : decode cX3_countChanged 30 = .ok (.iconst 1, 1) := by decide +kernel
theorem dX3_countChanged_31 : decode cX3_countChanged 31 = .ok (.goto 4, 3) := by decide +kernel
theorem dX3_countChanged_34 : decode cX3_countChanged 34 = .ok (.iconst 0, 1) := by decide +kernel
theorem dX3_countChanged_35 : decode cX3_countChanged 35 = .ok (.iadd, 1) := by decide +kernel
theorem dX3_countChanged_36 : decode cX3_countChanged 36 = .ok (.istore_n 2, 1) := by decide +kernel
theorem dX3_countChanged_37 : decode cX3_countChanged 37 = .ok (.iinc 3 1, 3) := by decide +kernel
theorem dX3_countChanged_40 : decode cX3_countChanged 40 = .ok (.goto (-36), 3) := by decide +kernel
theorem dX3_countChanged_43 : decode cX3_countChanged 43 = .ok (.iload_n 2, 1) := by decide +kernel
theorem dX3_countChanged_44 : decode cX3_countChanged 44 = .ok (.ireturn, 1) := by decide +kernel
set_option maxRecDepth 20000 in
theorem ggX3_lowestBits_X5_hasBit : GoodIn wsX3_lowestBits wsX5_hasBit := goodIn_r _ [3] (by decide +kernel) (by decide +kernel)
set_option maxRecDepth 20000 in
theorem gX3_lowestBits_X5_hasBit_n64 : GoodIn wsX3_lowestBits (wsX5_hasBit) := ggX3_lowestBits_X5_hasBit
theorem dX3_lowestBits_0 : decode cX3_lowestBits 0 = .ok (.iconst 0, 1) := by decide +kernel
theorem dX3_lowestBits_1 : decode cX3_lowestBits 1 = .ok (.istore_n 2, 1) := by decide +kernel
theorem dX3_lowestBits_2 : decode cX3_lowestBits 2 = .ok (.iconst 0, 1) := by decide +kernel
theorem dX3_lowestBits_3 : decode cX3_lowestBits 3 = .ok (.istore_n 3, 1) := by decide +kernel
theorem dX3_lowestBits_4 : decode cX3_lowestBits 4 = .ok (.iconst 0, 1) := by decide +kernel
theorem dX3_lowestBits_5 : decode cX3_lowestBits 5 = .ok (.istore 4, 2) := by decide +kernel
theorem dX3_lowestBits_7 : decode cX3_lowestBits 7 = .ok (.iload 4, 2) := by decide +kernel
theorem dX3_lowestBits_9 : decode cX3_lowestBits 9 = .ok (.bipush 8, 2) := by decide +kernel
theorem dX3_lowestBits_11 : decode cX3_lowestBits 11 = .ok (.if_icmp .ge 33, 3) := by decide +kernel
theorem dX3_lowestBits_14 : decode cX3_lowestBits 14 = .ok (.iload_n 3, 1) := by decide +kernel
theorem dX3_lowestBits_15 : decode cX3_lowestBits 15 = .ok (.iload_n 1, 1) := by decide +kernel
theorem dX3_lowestBits_16 : decode cX3_lowestBits 16 = .ok (.if_icmp .ge 28, 3) := by decide +kernel
theorem dX3_lowestBits_19 : decode cX3_lowestBits 19 = .ok (.iload_n 0, 1) := by decide +kernel
theorem dX3_lowestBits_20 : decode cX3_lowestBits 20 = .ok (.iload 4, 2) := by decide +kernel
theorem dX3_lowestBits_22 : decode cX3_lowestBits 22 = .ok (.invokestatic 64, 3) := by decide +kernel
theorem dX3_lowestBits_25 : decode cX3_lowestBits 25 = .ok (.ifCond .eq 13, 3) := by decide +kernel
theorem dX3_lowestBits_28 : decode cX3_lowestBits 28 = .ok (.iload_n 2, 1) := by decide +kernel
theorem dX3_lowestBits_29 : decode cX3_lowestBits 29 = .ok (.iconst 1, 1) := by decide +kernel
theorem dX3_lowestBits_30 : decode cX3_lowestBits 30 = .ok (.iload 4, 2) := by decide +kernel
theorem dX3_lowestBits_32 : decode cX3_lowestBits 32 = .ok (.ishl, 1) := by decide +kernel
theorem dX3_lowestBits_33 : decode cX3_lowestBits 33 = .ok (.ior, 1) := by decide +kernel
theorem dX3_lowestBits_34 : decode cX3_lowestBits 34 = .ok (.istore_n 2, 1) := by decide +kernel
theorem dX3_lowestBits_35 : decode cX3_lowestBits 35 = .ok (.iinc 3 1, 3) := by decide +kernel
theorem dX3_lowestBits_38 : decode cX3_lowestBits 38 = .ok (.iinc 4 1, 3) := by decide +kernel
theorem dX3_lowestBits_41 : decode cX3_lowestBits 41 = .ok (.goto (-34), 3) := by decide +kernel
theorem dX3_lowestBits_44 : decode cX3_lowestBits 44 = .ok (.iload_n 2, 1) := by decide +kernel
theorem dX3_lowestBits_45 : decode cX3_lowestBits 45 = .ok (.ireturn, 1) := by decide +kernel
end
section
set_option maxRecDepth 20000 in
theorem ggX0_init_X1_init : GoodIn wsX0_init wsX1_init := goodIn_r _ [10, 11, 2, 3, 12, 13, 14, 15, 16, 17, 18, 19, 20, 21, 22, 23, 24, 25, 26, 27, 28, 29, 30, 31, 32, 33, 34, 35, 36, 37, 38, 42, 43, 44, 45, 46, 47, 48, 49, 50, 51, 52, 53, 54, 55, 56, 57, 58] (by decide +kernel) (by decide +kernel)
set_option maxRecDepth 20000 in
theorem gX0_init_X1_init : GoodIn wsX0_init (wsX1_init) := ggX0_init_X1_init
theorem dX0_init_0 : decode cX0_init 0 = .ok (.aload_n 0, 1) := by decide +kernel
theorem dX0_init_1 : decode cX0_init 1 = .ok (.invokespecial 3, 3) := by decide +kernel
theorem dX0_init_4 : decode cX0_init 4 = .ok (.aload_n 0, 1) := by decide +kernel
theorem dX0_init_5 : decode cX0_init 5 = .ok (.iconst 4, 1) := by decide +kernel
theorem dX0_init_6 : decode cX0_init 6 = .ok (.anewarray 9, 3) := by decide +kernel
theorem dX0_init_9 : decode cX0_init 9 = .ok (.putfield 11, 3) := by decide +kernel
theorem dX0_init_12 : decode cX0_init 12 = .ok (.iconst 0, 1) := by decide +kernel
theorem dX0_init_13 : decode cX0_init 13 = .ok (.istore_n 1, 1) := by decide +kernel
theorem dX0_init_14 : decode cX0_init 14 = .ok (.iload_n 1, 1) := by decide +kernel
theorem dX0_init_15 : decode cX0_init 15 = .ok (.aload_n 0, 1) := by decide +kernel
theorem dX0_init_16 : decode cX0_init 16 = .ok (.getfield 11, 3) := by decide +kernel
theorem dX0_init_19 : decode cX0_init 19 = .ok (.arraylength, 1) := by decide +kernel
theorem dX0_init_20 : decode cX0_init 20 = .ok (.if_icmp .ge 22, 3) := by decide +kernel
theorem dX0_init_23 : decode cX0_init 23 = .ok (.aload_n 0, 1) := by decide +kernel
theorem dX0_init_24 : decode cX0_init 24 = .ok (.getfield 11, 3) := by decide +kernel
theorem dX0_init_27 : decode cX0_init 27 = .ok (.iload_n 1, 1) := by decide +kernel
theorem dX0_init_28 : decode cX0_init 28 = .ok (.new 9, 3) := by decide +kernel
theorem dX0_init_31 : decode cX0_init 31 = .ok (.dup, 1) := by decide +kernel
theorem dX0_init_32 : decode cX0_init 32 = .ok (.invokespecial 17, 3) := by decide +kernel
theorem dX0_init_35 : decode cX0_init 35 = .ok (.aastore, 1) := by decide +kernel
theorem dX0_init_36 : decode cX0_init 36 = .ok (.iinc 1 1, 3) := by decide +kernel
theorem dX0_init_39 : decode cX0_init 39 = .ok (.goto (-25), 3) := by decide +kernel
theorem dX0_init_42 : decode cX0_init 42 = .ok (.return_, 1) := by decide +kernel
set_option maxRecDepth 20000 in
theorem ggX0_push_X0_latestState : GoodIn wsX0_push wsX0_latestState := goodIn_r _ [11, 1, 12, 45, 46, 47] (by decide +kernel) (by decide +kernel)
set_option maxRecDepth 20000 in
theorem gX0_push_X0_latestState : GoodIn wsX0_push (wsV RX0 22 RX0 yX0_latestState wsX0_latestState) := goodIn_app (goodIn_of _ (by decide +kernel)) ggX0_push_X0_latestState
set_option maxRecDepth 20000 in
theorem ggX0_push_X1_copyFrom : GoodIn wsX0_push wsX1_copyFrom := goodIn_r _ [17, 18, 19, 20, 21, 22, 23, 24, 25, 26, 27, 28, 29, 30, 31, 32, 33, 34, 35, 36, 37, 38, 39, 40, 4, 5, 6, 41, 42, 43, 44, 48, 49, 50, 51, 52, 53, 54, 55, 56, 57, 58, 59, 60, 61, 62, 63, 64] (by decide +kernel) (by decide +kernel)
set_option maxRecDepth 20000 in
theorem gX0_push_X1_copyFrom : GoodIn wsX0_push (wsV RX0 26 RX1 yX1_copyFrom wsX1_copyFrom) := goodIn_app (goodIn_of _ (by decide +kernel)) ggX0_push_X1_copyFrom
theorem dX0_push_0 : decode cX0_push 0 = .ok (.aload_n 0, 1) := by decide +kernel
theorem dX0_push_1 : decode cX0_push 1 = .ok (.aload_n 0, 1) := by decide +kernel
theorem dX0_push_2 : decode cX0_push 2 = .ok (.getfield 18, 3) := by decide +kernel
theorem dX0_push_5 : decode cX0_push 5 = .ok (.iconst 1, 1) := by decide +kernel
theorem dX0_push_6 : decode cX0_push 6 = .ok (.iadd, 1) := by decide +kernel
theorem dX0_push_7 : decode cX0_push 7 = .ok (.iconst 4, 1) := by decide +kernel
theorem dX0_push_8 : decode cX0_push 8 = .ok (.irem, 1) := by decide +kernel
theorem dX0_push_9 : decode cX0_push 9 = .ok (.putfield 18, 3) := by decide +kernel
theorem dX0_push_12 : decode cX0_push 12 = .ok (.aload_n 0, 1) := by decide +kernel
theorem dX0_push_13 : decode cX0_push 13 = .ok (.invokevirtual 22, 3) := by decide +kernel
theorem dX0_push_16 : decode cX0_push 16 = .ok (.astore_n 2, 1) := by decide +kernel
theorem dX0_push_17 : decode cX0_push 17 = .ok (.aload_n 2, 1) := by decide +kernel
theorem dX0_push_18 : decode cX0_push 18 = .ok (.ifnull 22, 3) := by decide +kernel
theorem dX0_push_21 : decode cX0_push 21 = .ok (.aload_n 2, 1) := by decide +kernel
theorem dX0_push_22 : decode cX0_push 22 = .ok (.aload_n 1, 1) := by decide +kernel
theorem dX0_push_23 : decode cX0_push 23 = .ok (.invokevirtual 26, 3) := by decide +kernel
theorem dX0_push_26 : decode cX0_push 26 = .ok (.aload_n 0, 1) := by decide +kernel
theorem dX0_push_27 : decode cX0_push 27 = .ok (.aload_n 0, 1) := by decide +kernel
theorem dX0_push_28 : decode cX0_push 28 = .ok (.getfield 30, 3) := by decide +kernel
theorem dX0_push_31 : decode cX0_push 31 = .ok (.iconst 1, 1) := by decide +kernel
theorem dX0_push_32 : decode cX0_push 32 = .ok (.iadd, 1) := by decide +kernel
theorem dX0_push_33 : decode cX0_push 33 = .ok (.iconst 4, 1) := by decide +kernel
theorem dX0_push_34 : decode cX0_push 34 = .ok (.invokestatic 33, 3) := by decide +kernel
theorem dX0_push_37 : decode cX0_push 37 = .ok (.putfield 30, 3) := by decide +kernel
theorem dX0_push_40 : decode cX0_push 40 = .ok (.return_, 1) := by decide +kernel
set_option maxRecDepth 20000 in
theorem ggX0_takeBack_X0_latestState : GoodIn wsX0_takeBack wsX0_latestState := goodIn_r _ [7, 2, 8, 44, 45, 46] (by decide +kernel) (by decide +kernel)
set_option maxRecDepth 20000 in
theorem gX0_takeBack_X0_latestState : GoodIn wsX0_takeBack (wsV RX0 22 RX0 yX0_latestState wsX0_latestState) := goodIn_app (goodIn_of _ (by decide +kernel)) ggX0_takeBack_X0_latestState
set_option maxRecDepth 20000 in
theorem ggX0_takeBack_X1_copyFrom : GoodIn wsX0_takeBack wsX1_copyFrom := goodIn_r _ [13, 14, 15, 16, 17, 18, 19, 20, 21, 22, 23, 24, 25, 26, 27, 28, 29, 30, 31, 32, 33, 34, 35, 36, 37, 38, 39, 40, 41, 42, 43, 47, 48, 49, 50, 51, 52, 53, 54, 55, 56, 57, 58, 59, 60, 61, 62, 63] (by decide +kernel) (by decide +kernel)
set_option maxRecDepth 20000 in
theorem gX0_takeBack_X1_copyFrom : GoodIn wsX0_takeBack (wsV RX0 26 RX1 yX1_copyFrom wsX1_copyFrom) := goodIn_app (goodIn_of _ (by decide +kernel)) ggX0_takeBack_X1_copyFrom
theorem dX0_takeBack_0 : decode cX0_takeBack 0 = .ok (.aload_n 0, 1) := by decide +kernel
theorem dX0_takeBack_1 : decode cX0_takeBack 1 = .ok (.invokevirtual 22, 3) := by decide +kernel
theorem dX0_takeBack_4 : decode cX0_takeBack 4 = .ok (.astore_n 2, 1) := by decide +kernel
theorem dX0_takeBack_5 : decode cX0_takeBack 5 = .ok (.aload_n 0, 1) := by decide +kernel
theorem dX0_takeBack_6 : decode cX0_takeBack 6 = .ok (.getfield 30, 3) := by decide +kernel
theorem dX0_takeBack_9 : decode cX0_takeBack 9 = .ok (.ifCond .eq 7, 3) := by decide +kernel
theorem dX0_takeBack_12 : decode cX0_takeBack 12 = .ok (.aload_n 2, 1) := by decide +kernel
theorem dX0_takeBack_13 : decode cX0_takeBack 13 = .ok (.ifnonnull 6, 3) := by decide +kernel
theorem dX0_takeBack_16 : decode cX0_takeBack 16 = .ok (.bipush (-6), 2) := by decide +kernel
theorem dX0_takeBack_18 : decode cX0_takeBack 18 = .ok (.ireturn, 1) := by decide +kernel
theorem dX0_takeBack_19 : decode cX0_takeBack 19 = .ok (.aload_n 1, 1) := by decide +kernel
theorem dX0_takeBack_20 : decode cX0_takeBack 20 = .ok (.aload_n 2, 1) := by decide +kernel
theorem dX0_takeBack_21 : decode cX0_takeBack 21 = .ok (.invokevirtual 26, 3) := by decide +kernel
theorem dX0_takeBack_24 : decode cX0_takeBack 24 = .ok (.aload_n 0, 1) := by decide +kernel
theorem dX0_takeBack_25 : decode cX0_takeBack 25 = .ok (.aload_n 0, 1) := by decide +kernel
theorem dX0_takeBack_26 : decode cX0_takeBack 26 = .ok (.getfield 18, 3) := by decide +kernel
theorem dX0_takeBack_29 : decode cX0_takeBack 29 = .ok (.iconst 4, 1) := by decide +kernel
theorem dX0_takeBack_30 : decode cX0_takeBack 30 = .ok (.iadd, 1) := by decide +kernel
theorem dX0_takeBack_31 : decode cX0_takeBack 31 = .ok (.iconst 1, 1) := by decide +kernel
theorem dX0_takeBack_32 : decode cX0_takeBack 32 = .ok (.isub, 1) := by decide +kernel
theorem dX0_takeBack_33 : decode cX0_takeBack 33 = .ok (.iconst 4, 1) := by decide +kernel
theorem dX0_takeBack_34 : decode cX0_takeBack 34 = .ok (.irem, 1) := by decide +kernel
theorem dX0_takeBack_35 : decode cX0_takeBack 35 = .ok (.putfield 18, 3) := by decide +kernel
theorem dX0_takeBack_38 : decode cX0_takeBack 38 = .ok (.aload_n 0, 1) := by decide +kernel
theorem dX0_takeBack_39 : decode cX0_takeBack 39 = .ok (.dup, 1) := by decide +kernel
theorem dX0_takeBack_40 : decode cX0_takeBack 40 = .ok (.getfield 30, 3) := by decide +kernel
theorem dX0_takeBack_43 : decode cX0_takeBack 43 = .ok (.iconst 1, 1) := by decide +kernel
theorem dX0_takeBack_44 : decode cX0_takeBack 44 = .ok (.isub, 1) := by decide +kernel
theorem dX0_takeBack_45 : decode cX0_takeBack 45 = .ok (.putfield 30, 3) := by decide +kernel
theorem dX0_takeBack_48 : decode cX0_takeBack 48 = .ok (.aload_n 0, 1) := by decide +kernel
theorem dX0_takeBack_49 : decode cX0_takeBack 49 = .ok (.getfield 30, 3) := by decide +kernel
theorem dX0_takeBack_52 : decode cX0_takeBack 52 = .ok (.ireturn, 1) := by decide +kernel
theorem dX0_latestState_0 : decode cX0_latestState 0 = .ok (.aload_n 0, 1) := by decide +kernel
theorem dX0_latestState_1 : decode cX0_latestState 1 = .ok (.getfield 18, 3) := by decide +kernel
theorem dX0_latestState_4 : decode cX0_latestState 4 = .ok (.ifCond .lt 27, 3) := by decide +kernel
theorem dX0_latestState_7 : decode cX0_latestState 7 = .ok (.aload_n 0, 1) := by decide +kernel
theorem dX0_latestState_8 : decode cX0_latestState 8 = .ok (.getfield 18, 3) := by decide +kernel
theorem dX0_latestState_11 : decode cX0_latestState 11 = .ok (.aload_n 0, 1) := by decide +kernel
theorem dX0_latestState_12 : decode cX0_latestState 12 = .ok (.getfield 11, 3) := by decide +kernel
theorem dX0_latestState_15 : decode cX0_latestState 15 = .ok (.arraylength, 1) := by decide +kernel
theorem dX0_latestState_16 : decode cX0_latestState 16 = .ok (.if_icmp .ge 15, 3) := by decide +kernel
theorem dX0_latestState_19 : decode cX0_latestState 19 = .ok (.aload_n 0, 1) := by decide +kernel
theorem dX0_latestState_20 : decode cX0_latestState 20 = .ok (.getfield 11, 3) := by decide +kernel
theorem dX0_latestState_23 : decode cX0_latestState 23 = .ok (.aload_n 0, 1) := by decide +kernel
theorem dX0_latestState_24 : decode cX0_latestState 24 = .ok (.getfield 18, 3) := by decide +kernel
theorem dX0_latestState_27 : decode cX0_latestState 27 = .ok (.aaload, 1) := by decide +kernel
theorem dX0_latestState_28 : decode cX0_latestState 28 = .ok (.goto 4, 3) := by decide +kernel
theorem dX0_latestState_31 : decode cX0_latestState 31 = .ok (.aconst_null, 1) := by decide +kernel
theorem dX0_latestState_32 : decode cX0_latestState 32 = .ok (.areturn, 1) := by decide +kernel
end
section
set_option maxRecDepth 20000 in
theorem ggX5_init_X1_init : GoodIn wsX5_init wsX1_init := goodIn_r _ [26, 27, 2, 3, 28, 29, 30, 31, 32, 33, 34, 35, 36, 37, 38, 39, 40, 41, 42, 43, 44, 45, 46, 47, 48, 49, 50, 51, 52, 53, 54, 77, 78, 79, 80, 81, 82, 83, 84, 85, 86, 87, 88, 89, 90, 91, 92, 115] (by decide +kernel) (by decide +kernel)
set_option maxRecDepth 20000 in
theorem gX5_init_X1_init : GoodIn wsX5_init (wsX1_init) := ggX5_init_X1_init
set_option maxRecDepth 20000 in
theorem ggX5_init_X3_init : GoodIn wsX5_init wsX3_init := goodIn_r _ [57, 58, 2, 3, 59, 33, 34, 60, 61, 62, 42, 43, 44, 45, 46, 47, 48, 49, 50, 51, 52, 53, 54, 115, 101, 102, 103, 104, 105] (by decide +kernel) (by decide +kernel)
set_option maxRecDepth 20000 in
theorem gX5_init_X3_init : GoodIn wsX5_init (wsX3_init) := ggX5_init_X3_init
set_option maxRecDepth 20000 in
theorem ggX5_init_X0_init : GoodIn wsX5_init wsX0_init := goodIn_r _ [65, 66, 2, 3, 67, 68, 5, 6, 69, 25, 26, 27, 28, 29, 30, 31, 32, 33, 34, 35, 36, 37, 38, 39, 40, 41, 42, 43, 44, 45, 46, 47, 48, 49, 50, 51, 52, 53, 54, 106, 107, 108, 77, 78, 79, 80, 81, 82, 83, 84, 85, 86, 87, 88, 89, 90, 91, 92, 115] (by decide +kernel) (by decide +kernel)
set_option maxRecDepth 20000 in
theorem gX5_init_X0_init : GoodIn wsX5_init (wsX0_init) := ggX5_init_X0_init
set_option maxRecDepth 20000 in
theorem ggX5_init_X2_init : GoodIn wsX5_init wsX2_init := goodIn_r _ [72, 73, 2, 3, 74, 33, 34, 75, 76, 42, 43, 44, 45, 46, 47, 48, 49, 50, 51, 52, 53, 54, 115, 109, 110, 111, 112, 113, 114] (by decide +kernel) (by decide +kernel)
set_option maxRecDepth 20000 in
theorem gX5_init_X2_init : GoodIn wsX5_init (wsX2_init) := ggX5_init_X2_init
theorem dX5_init_0 : decode cX5_init 0 = .ok (.aload_n 0, 1) := by decide +kernel
theorem dX5_init_1 : decode cX5_init 1 = .ok (.invokespecial 3, 3) := by decide +kernel
theorem dX5_init_4 : decode cX5_init 4 = .ok (.aload_n 0, 1) := by decide +kernel
theorem dX5_init_5 : decode cX5_init 5 = .ok (.new 9, 3) := by decide +kernel
theorem dX5_init_8 : decode cX5_init 8 = .ok (.dup, 1) := by decide +kernel
theorem dX5_init_9 : decode cX5_init 9 = .ok (.invokespecial 11, 3) := by decide +kernel
theorem dX5_init_12 : decode cX5_init 12 = .ok (.putfield 12, 3) := by decide +kernel
theorem dX5_init_15 : decode cX5_init 15 = .ok (.aload_n 0, 1) := by decide +kernel
theorem dX5_init_16 : decode cX5_init 16 = .ok (.new 9, 3) := by decide +kernel
theorem dX5_init_19 : decode cX5_init 19 = .ok (.dup, 1) := by decide +kernel
theorem dX5_init_20 : decode cX5_init 20 = .ok (.invokespecial 11, 3) := by decide +kernel
theorem dX5_init_23 : decode cX5_init 23 = .ok (.putfield 16, 3) := by decide +kernel
theorem dX5_init_26 : decode cX5_init 26 = .ok (.aload_n 0, 1) := by decide +kernel
theorem dX5_init_27 : decode cX5_init 27 = .ok (.new 9, 3) := by decide +kernel
theorem dX5_init_30 : decode cX5_init 30 = .ok (.dup, 1) := by decide +kernel
theorem dX5_init_31 : decode cX5_init 31 = .ok (.invokespecial 11, 3) := by decide +kernel
theorem dX5_init_34 : decode cX5_init 34 = .ok (.putfield 19, 3) := by decide +kernel
theorem dX5_init_37 : decode cX5_init 37 = .ok (.aload_n 0, 1) := by decide +kernel
theorem dX5_init_38 : decode cX5_init 38 = .ok (.new 9, 3) := by decide +kernel
theorem dX5_init_41 : decode cX5_init 41 = .ok (.dup, 1) := by decide +kernel
theorem dX5_init_42 : decode cX5_init 42 = .ok (.invokespecial 11, 3) := by decide +kernel
theorem dX5_init_45 : decode cX5_init 45 = .ok (.putfield 22, 3) := by decide +kernel
theorem dX5_init_48 : decode cX5_init 48 = .ok (.aload_n 0, 1) := by decide +kernel
theorem dX5_init_49 : decode cX5_init 49 = .ok (.new 25, 3) := by decide +kernel
theorem dX5_init_52 : decode cX5_init 52 = .ok (.dup, 1) := by decide +kernel
theorem dX5_init_53 : decode cX5_init 53 = .ok (.invokespecial 27, 3) := by decide +kernel
theorem dX5_init_56 : decode cX5_init 56 = .ok (.putfield 28, 3) := by decide +kernel
theorem dX5_init_59 : decode cX5_init 59 = .ok (.aload_n 0, 1) := by decide +kernel
theorem dX5_init_60 : decode cX5_init 60 = .ok (.new 32, 3) := by decide +kernel
theorem dX5_init_63 : decode cX5_init 63 = .ok (.dup, 1) := by decide +kernel
theorem dX5_init_64 : decode cX5_init 64 = .ok (.invokespecial 34, 3) := by decide +kernel
theorem dX5_init_67 : decode cX5_init 67 = .ok (.putfield 35, 3) := by decide +kernel
theorem dX5_init_70 : decode cX5_init 70 = .ok (.aload_n 0, 1) := by decide +kernel
theorem dX5_init_71 : decode cX5_init 71 = .ok (.new 39, 3) := by decide +kernel
theorem dX5_init_74 : decode cX5_init 74 = .ok (.dup, 1) := by decide +kernel
theorem dX5_init_75 : decode cX5_init 75 = .ok (.invokespecial 41, 3) := by decide +kernel
theorem dX5_init_78 : decode cX5_init 78 = .ok (.putfield 42, 3) := by decide +kernel
theorem dX5_init_81 : decode cX5_init 81 = .ok (.aload_n 0, 1) := by decide +kernel
theorem dX5_init_82 : decode cX5_init 82 = .ok (.iconst 0, 1) := by decide +kernel
theorem dX5_init_83 : decode cX5_init 83 = .ok (.putfield 46, 3) := by decide +kernel
theorem dX5_init_86 : decode cX5_init 86 = .ok (.return_, 1) := by decide +kernel
set_option maxRecDepth 20000 in
theorem ggX5_setUp_X5_within : GoodIn wsX5_setUp wsX5_within := goodIn_r _ [6] (by decide +kernel) (by decide +kernel)
set_option maxRecDepth 20000 in
theorem gX5_setUp_X5_within : GoodIn wsX5_setUp (va_wsS RX5 50 yX5_within wsX5_within) := goodIn_app (goodIn_of _ (by decide +kernel)) ggX5_setUp_X5_within
set_option maxRecDepth 20000 in
theorem ggX5_setUp_X0_push : GoodIn wsX5_setUp wsX0_push := goodIn_r _ [11, 12, 13, 14, 15, 16, 17, 18, 19, 20, 10, 21, 22, 23, 24, 25, 26, 27, 28, 29, 30, 31, 32, 33, 34, 35, 36, 37, 38, 39, 40, 41, 42, 43, 44, 45, 46, 47, 48, 49, 50, 51, 52, 53, 54, 83, 84, 85, 86, 87, 88, 89, 90, 91, 92, 93, 94, 95, 96, 97, 98, 99, 100, 101, 102] (by decide +kernel) (by decide +kernel)
set_option maxRecDepth 20000 in
theorem gX5_setUp_X0_push : GoodIn wsX5_setUp (wsV RX5 54 RX0 yX0_push wsX0_push) := goodIn_app (goodIn_of _ (by decide +kernel)) ggX5_setUp_X0_push
set_option maxRecDepth 20000 in
theorem ggX5_setUp_X1_rebuild : GoodIn wsX5_setUp wsX1_rebuild := goodIn_r _ [58, 35, 28, 29, 30, 31, 38, 39, 40, 41, 42, 43, 59, 60, 61, 26, 62, 63, 64, 65, 47, 66, 49, 67, 68, 69, 70, 71, 72, 73, 74, 86, 87, 88, 89, 90, 91, 92, 93, 94, 95, 96, 97, 98, 99, 100, 101, 102] (by decide +kernel) (by decide +kernel)
set_option maxRecDepth 20000 in
theorem gX5_setUp_X1_rebuild : GoodIn wsX5_setUp (wsV RX5 58 RX1 yX1_rebuild wsX1_rebuild) := goodIn_app (goodIn_of _ (by decide +kernel)) ggX5_setUp_X1_rebuild
theorem dX5_setUp_0 : decode cX5_setUp 0 = .ok (.iload_n 1, 1) := by decide +kernel
theorem dX5_setUp_1 : decode cX5_setUp 1 = .ok (.iconst 2, 1) := by decide +kernel
theorem dX5_setUp_2 : decode cX5_setUp 2 = .ok (.bipush 8, 2) := by decide +kernel
theorem dX5_setUp_4 : decode cX5_setUp 4 = .ok (.invokestatic 50, 3) := by decide +kernel
theorem dX5_setUp_7 : decode cX5_setUp 7 = .ok (.ifCond .eq 23, 3) := by decide +kernel
theorem dX5_setUp_10 : decode cX5_setUp 10 = .ok (.iload_n 2, 1) := by decide +kernel
theorem dX5_setUp_11 : decode cX5_setUp 11 = .ok (.iconst 1, 1) := by decide +kernel
theorem dX5_setUp_12 : decode cX5_setUp 12 = .ok (.bipush 6, 2) := by decide +kernel
theorem dX5_setUp_14 : decode cX5_setUp 14 = .ok (.invokestatic 50, 3) := by decide +kernel
theorem dX5_setUp_17 : decode cX5_setUp 17 = .ok (.ifCond .eq 13, 3) := by decide +kernel
theorem dX5_setUp_20 : decode cX5_setUp 20 = .ok (.iload_n 3, 1) := by decide +kernel
theorem dX5_setUp_21 : decode cX5_setUp 21 = .ok (.iconst 1, 1) := by decide +kernel
theorem dX5_setUp_22 : decode cX5_setUp 22 = .ok (.bipush 8, 2) := by decide +kernel
theorem dX5_setUp_24 : decode cX5_setUp 24 = .ok (.invokestatic 50, 3) := by decide +kernel
theorem dX5_setUp_27 : decode cX5_setUp 27 = .ok (.ifCond .ne 6, 3) := by decide +kernel
theorem dX5_setUp_30 : decode cX5_setUp 30 = .ok (.bipush (-2), 2) := by decide +kernel
theorem dX5_setUp_32 : decode cX5_setUp 32 = .ok (.ireturn, 1) := by decide +kernel
theorem dX5_setUp_33 : decode cX5_setUp 33 = .ok (.aload_n 0, 1) := by decide +kernel
theorem dX5_setUp_34 : decode cX5_setUp 34 = .ok (.getfield 35, 3) := by decide +kernel
theorem dX5_setUp_37 : decode cX5_setUp 37 = .ok (.aload_n 0, 1) := by decide +kernel
theorem dX5_setUp_38 : decode cX5_setUp 38 = .ok (.getfield 12, 3) := by decide +kernel
theorem dX5_setUp_41 : decode cX5_setUp 41 = .ok (.invokevirtual 54, 3) := by decide +kernel
theorem dX5_setUp_44 : decode cX5_setUp 44 = .ok (.aload_n 0, 1) := by decide +kernel
theorem dX5_setUp_45 : decode cX5_setUp 45 = .ok (.getfield 12, 3) := by decide +kernel
theorem dX5_setUp_48 : decode cX5_setUp 48 = .ok (.iload_n 1, 1) := by decide +kernel
theorem dX5_setUp_49 : decode cX5_setUp 49 = .ok (.iload_n 2, 1) := by decide +kernel
theorem dX5_setUp_50 : decode cX5_setUp 50 = .ok (.iload_n 3, 1) := by decide +kernel
theorem dX5_setUp_51 : decode cX5_setUp 51 = .ok (.invokevirtual 58, 3) := by decide +kernel
theorem dX5_setUp_54 : decode cX5_setUp 54 = .ok (.ireturn, 1) := by decide +kernel
set_option maxRecDepth 20000 in
theorem ggX5_setChoiceRule_X5_within : GoodIn wsX5_setChoiceRule wsX5_within := goodIn_r _ [7] (by decide +kernel) (by decide +kernel)
set_option maxRecDepth 20000 in
theorem gX5_setChoiceRule_X5_within : GoodIn wsX5_setChoiceRule (va_wsS RX5 50 yX5_within wsX5_within) := goodIn_app (goodIn_of _ (by decide +kernel)) ggX5_setChoiceRule_X5_within
set_option maxRecDepth 20000 in
theorem ggX5_setChoiceRule_X0_push : GoodIn wsX5_setChoiceRule wsX0_push := goodIn_r _ [12, 13, 14, 15, 16, 17, 18, 19, 20, 21, 11, 22, 23, 24, 25, 26, 27, 28, 29, 30, 31, 32, 33, 34, 35, 36, 37, 38, 39, 40, 41, 42, 43, 44, 45, 46, 47, 48, 49, 50, 51, 52, 53, 54, 55, 80, 81, 82, 64, 65, 66, 67, 68, 69, 70, 71, 72, 73, 74, 75, 76, 77, 78, 79, 83] (by decide +kernel) (by decide +kernel)
set_option maxRecDepth 20000 in
theorem gX5_setChoiceRule_X0_push : GoodIn wsX5_setChoiceRule (wsV RX5 54 RX0 yX0_push wsX0_push) := goodIn_app (goodIn_of _ (by decide +kernel)) ggX5_setChoiceRule_X0_push
theorem dX5_setChoiceRule_0 : decode cX5_setChoiceRule 0 = .ok (.iload_n 1, 1) := by decide +kernel
theorem dX5_setChoiceRule_1 : decode cX5_setChoiceRule 1 = .ok (.iconst 0, 1) := by decide +kernel
theorem dX5_setChoiceRule_2 : decode cX5_setChoiceRule 2 = .ok (.iconst 2, 1) := by decide +kernel
theorem dX5_setChoiceRule_3 : decode cX5_setChoiceRule 3 = .ok (.invokestatic 50, 3) := by decide +kernel
theorem dX5_setChoiceRule_6 : decode cX5_setChoiceRule 6 = .ok (.ifCond .ne 6, 3) := by decide +kernel
theorem dX5_setChoiceRule_9 : decode cX5_setChoiceRule 9 = .ok (.bipush (-2), 2) := by decide +kernel
theorem dX5_setChoiceRule_11 : decode cX5_setChoiceRule 11 = .ok (.ireturn, 1) := by decide +kernel
theorem dX5_setChoiceRule_12 : decode cX5_setChoiceRule 12 = .ok (.aload_n 0, 1) := by decide +kernel
theorem dX5_setChoiceRule_13 : decode cX5_setChoiceRule 13 = .ok (.getfield 12, 3) := by decide +kernel
theorem dX5_setChoiceRule_16 : decode cX5_setChoiceRule 16 = .ok (.getfield 62, 3) := by decide +kernel
theorem dX5_setChoiceRule_19 : decode cX5_setChoiceRule 19 = .ok (.istore_n 2, 1) := by decide +kernel
theorem dX5_setChoiceRule_20 : decode cX5_setChoiceRule 20 = .ok (.iload_n 1, 1) := by decide +kernel
theorem dX5_setChoiceRule_21 : decode cX5_setChoiceRule 21 = .ok (.iload_n 2, 1) := by decide +kernel
theorem dX5_setChoiceRule_22 : decode cX5_setChoiceRule 22 = .ok (.if_icmp .ne 6, 3) := by decide +kernel
theorem dX5_setChoiceRule_25 : decode cX5_setChoiceRule 25 = .ok (.bipush (-6), 2) := by decide +kernel
theorem dX5_setChoiceRule_27 : decode cX5_setChoiceRule 27 = .ok (.ireturn, 1) := by decide +kernel
theorem dX5_setChoiceRule_28 : decode cX5_setChoiceRule 28 = .ok (.aload_n 0, 1) := by decide +kernel
theorem dX5_setChoiceRule_29 : decode cX5_setChoiceRule 29 = .ok (.getfield 35, 3) := by decide +kernel
theorem dX5_setChoiceRule_32 : decode cX5_setChoiceRule 32 = .ok (.aload_n 0, 1) := by decide +kernel
theorem dX5_setChoiceRule_33 : decode cX5_setChoiceRule 33 = .ok (.getfield 12, 3) := by decide +kernel
theorem dX5_setChoiceRule_36 : decode cX5_setChoiceRule 36 = .ok (.invokevirtual 54, 3) := by decide +kernel
theorem dX5_setChoiceRule_39 : decode cX5_setChoiceRule 39 = .ok (.aload_n 0, 1) := by decide +kernel
theorem dX5_setChoiceRule_40 : decode cX5_setChoiceRule 40 = .ok (.getfield 12, 3) := by decide +kernel
theorem dX5_setChoiceRule_43 : decode cX5_setChoiceRule 43 = .ok (.iload_n 1, 1) := by decide +kernel
theorem dX5_setChoiceRule_44 : decode cX5_setChoiceRule 44 = .ok (.putfield 62, 3) := by decide +kernel
theorem dX5_setChoiceRule_47 : decode cX5_setChoiceRule 47 = .ok (.iload_n 2, 1) := by decide +kernel
theorem dX5_setChoiceRule_48 : decode cX5_setChoiceRule 48 = .ok (.ireturn, 1) := by decide +kernel
set_option maxRecDepth 20000 in
theorem ggX5_setPairRule_X5_within : GoodIn wsX5_setPairRule wsX5_within := goodIn_r _ [7] (by decide +kernel) (by decide +kernel)
set_option maxRecDepth 20000 in
theorem gX5_setPairRule_X5_within : GoodIn wsX5_setPairRule (va_wsS RX5 50 yX5_within wsX5_within) := goodIn_app (goodIn_of _ (by decide +kernel)) ggX5_setPairRule_X5_within
set_option maxRecDepth 20000 in
theorem ggX5_setPairRule_X0_push : GoodIn wsX5_setPairRule wsX0_push := goodIn_r _ [12, 13, 14, 15, 16, 17, 18, 19, 20, 21, 11, 22, 23, 24, 25, 26, 27, 28, 29, 30, 31, 32, 33, 34, 35, 36, 37, 38, 39, 40, 41, 42, 43, 44, 45, 46, 47, 48, 49, 50, 51, 52, 53, 54, 55, 80, 81, 82, 64, 65, 66, 67, 68, 69, 70, 71, 72, 73, 74, 75, 76, 77, 78, 79, 83] (by decide +kernel) (by decide +kernel)
set_option maxRecDepth 20000 in
theorem gX5_setPairRule_X0_push : GoodIn wsX5_setPairRule (wsV RX5 54 RX0 yX0_push wsX0_push) := goodIn_app (goodIn_of _ (by decide +kernel)) ggX5_setPairRule_X0_push
theorem dX5_setPairRule_0 : decode cX5_setPairRule 0 = .ok (.iload_n 1, 1) := by decide +kernel
theorem dX5_setPairRule_1 : decode cX5_setPairRule 1 = .ok (.iconst 0, 1) := by decide +kernel
theorem dX5_setPairRule_2 : decode cX5_setPairRule 2 = .ok (.iconst 1, 1) := by decide +kernel
theorem dX5_setPairRule_3 : decode cX5_setPairRule 3 = .ok (.invokestatic 50, 3) := by decide +kernel
theorem dX5_setPairRule_6 : decode cX5_setPairRule 6 = .ok (.ifCond .ne 6, 3) := by decide +kernel
theorem dX5_setPairRule_9 : decode cX5_setPairRule 9 = .ok (.bipush (-2), 2) := by decide +kernel
theorem dX5_setPairRule_11 : decode cX5_setPairRule 11 = .ok (.ireturn, 1) := by decide +kernel
theorem dX5_setPairRule_12 : decode cX5_setPairRule 12 = .ok (.aload_n 0, 1) := by decide +kernel
theorem dX5_setPairRule_13 : decode cX5_setPairRule 13 = .ok (.getfield 12, 3) := by decide +kernel
theorem dX5_setPairRule_16 : decode cX5_setPairRule 16 = .ok (.getfield 66, 3) := by decide +kernel
theorem dX5_setPairRule_19 : decode cX5_setPairRule 19 = .ok (.istore_n 2, 1) := by decide +kernel
theorem dX5_setPairRule_20 : decode cX5_setPairRule 20 = .ok (.iload_n 1, 1) := by decide +kernel
theorem dX5_setPairRule_21 : decode cX5_setPairRule 21 = .ok (.iload_n 2, 1) := by decide +kernel
theorem dX5_setPairRule_22 : decode cX5_setPairRule 22 = .ok (.if_icmp .ne 6, 3) := by decide +kernel
theorem dX5_setPairRule_25 : decode cX5_setPairRule 25 = .ok (.bipush (-6), 2) := by decide +kernel
theorem dX5_setPairRule_27 : decode cX5_setPairRule 27 = .ok (.ireturn, 1) := by decide +kernel
theorem dX5_setPairRule_28 : decode cX5_setPairRule 28 = .ok (.aload_n 0, 1) := by decide +kernel
theorem dX5_setPairRule_29 : decode cX5_setPairRule 29 = .ok (.getfield 35, 3) := by decide +kernel
theorem dX5_setPairRule_32 : decode cX5_setPairRule 32 = .ok (.aload_n 0, 1) := by decide +kernel
theorem dX5_setPairRule_33 : decode cX5_setPairRule 33 = .ok (.getfield 12, 3) := by decide +kernel
theorem dX5_setPairRule_36 : decode cX5_setPairRule 36 = .ok (.invokevirtual 54, 3) := by decide +kernel
theorem dX5_setPairRule_39 : decode cX5_setPairRule 39 = .ok (.aload_n 0, 1) := by decide +kernel
theorem dX5_setPairRule_40 : decode cX5_setPairRule 40 = .ok (.getfield 12, 3) := by decide +kernel
theorem dX5_setPairRule_43 : decode cX5_setPairRule 43 = .ok (.iload_n 1, 1) := by decide +kernel
theorem dX5_setPairRule_44 : decode cX5_setPairRule 44 = .ok (.putfield 66, 3) := by decide +kernel
theorem dX5_setPairRule_47 : decode cX5_setPairRule 47 = .ok (.iload_n 2, 1) := by decide +kernel
theorem dX5_setPairRule_48 : decode cX5_setPairRule 48 = .ok (.ireturn, 1) := by decide +kernel
set_option maxRecDepth 20000 in
theorem ggX5_connect_X1_copyFrom : GoodIn wsX5_connect wsX1_copyFrom := goodIn_r _ [8, 9, 10, 11, 12, 13, 14, 15, 16, 17, 18, 19, 20, 21, 22, 23, 24, 25, 26, 27, 28, 29, 30, 31, 32, 33, 34, 35, 36, 37, 38, 157, 158, 159, 160, 161, 162, 163, 164, 165, 166, 167, 168, 169, 170, 171, 172, 173] (by decide +kernel) (by decide +kernel)
set_option maxRecDepth 20000 in
theorem gX5_connect_X1_copyFrom : GoodIn wsX5_connect (wsV RX5 69 RX1 yX1_copyFrom wsX1_copyFrom) := goodIn_app (goodIn_of _ (by decide +kernel)) ggX5_connect_X1_copyFrom
set_option maxRecDepth 20000 in
theorem ggX5_connect_X3_join : GoodIn wsX5_connect wsX3_join := goodIn_r _ [43, 44, 45, 46, 42, 47, 48, 49, 50, 7, 51, 9, 10, 52, 53, 54, 55, 19, 56, 57, 58, 28, 59, 30, 60, 61, 62, 63, 22, 64, 65, 66, 67, 68, 69, 70, 71, 72, 73, 74, 75, 76, 77, 78, 79, 11, 12, 80, 81, 82, 83, 84, 85, 86, 87, 88, 89, 90, 91, 92, 93, 23, 94, 95, 96, 97, 98, 99, 100, 101, 102, 103, 104, 105, 106, 107, 108, 109, 110, 111, 112, 113, 114, 15, 20, 115, 116, 117, 118, 119, 120, 121, 122, 123, 124, 21, 24, 125, 126, 127, 128, 129, 157, 158, 159, 160, 161, 162, 163, 164, 165, 166, 167, 168, 169, 170, 171, 172, 173, 174, 175, 176, 177, 178] (by decide +kernel) (by decide +kernel)
set_option maxRecDepth 20000 in
theorem gX5_connect_X3_join : GoodIn wsX5_connect (wsV RX5 72 RX3 yX3_join wsX3_join) := goodIn_app (goodIn_of _ (by decide +kernel)) ggX5_connect_X3_join
set_option maxRecDepth 20000 in
theorem ggX5_connect_X5_recorded : GoodIn wsX5_connect wsX5_recorded := goodIn_r _ [133, 134, 1, 135, 136, 137, 138, 139, 140, 141, 142, 32, 33, 34, 143, 144, 145, 146, 147, 148, 5, 6, 7, 8, 9, 10, 11, 12, 13, 14, 15, 16, 17, 18, 19, 20, 21, 22, 23, 24, 25, 26, 27, 28, 29, 30, 31, 35, 36, 37, 38, 149, 150, 151, 152, 153, 154, 155, 156, 179, 180, 181, 157, 158, 159, 160, 161, 162, 163, 164, 165, 166, 167, 168, 169, 170, 171, 172, 173] (by decide +kernel) (by decide +kernel)
set_option maxRecDepth 20000 in
theorem gX5_connect_X5_recorded : GoodIn wsX5_connect (wsV RX5 76 RX5 yX5_recorded wsX5_recorded) := goodIn_app (goodIn_of _ (by decide +kernel)) ggX5_connect_X5_recorded
theorem dX5_connect_0 : decode cX5_connect 0 = .ok (.aload_n 0, 1) := by decide +kernel
theorem dX5_connect_1 : decode cX5_connect 1 = .ok (.getfield 16, 3) := by decide +kernel
theorem dX5_connect_4 : decode cX5_connect 4 = .ok (.aload_n 0, 1) := by decide +kernel
theorem dX5_connect_5 : decode cX5_connect 5 = .ok (.getfield 12, 3) := by decide +kernel
theorem dX5_connect_8 : decode cX5_connect 8 = .ok (.invokevirtual 69, 3) := by decide +kernel
theorem dX5_connect_11 : decode cX5_connect 11 = .ok (.aload_n 0, 1) := by decide +kernel
theorem dX5_connect_12 : decode cX5_connect 12 = .ok (.aload_n 0, 1) := by decide +kernel
theorem dX5_connect_13 : decode cX5_connect 13 = .ok (.getfield 28, 3) := by decide +kernel
theorem dX5_connect_16 : decode cX5_connect 16 = .ok (.aload_n 0, 1) := by decide +kernel
theorem dX5_connect_17 : decode cX5_connect 17 = .ok (.getfield 12, 3) := by decide +kernel
theorem dX5_connect_20 : decode cX5_connect 20 = .ok (.iload_n 1, 1) := by decide +kernel
theorem dX5_connect_21 : decode cX5_connect 21 = .ok (.iload_n 2, 1) := by decide +kernel
theorem dX5_connect_22 : decode cX5_connect 22 = .ok (.invokevirtual 72, 3) := by decide +kernel
theorem dX5_connect_25 : decode cX5_connect 25 = .ok (.invokevirtual 76, 3) := by decide +kernel
theorem dX5_connect_28 : decode cX5_connect 28 = .ok (.ireturn, 1) := by decide +kernel
set_option maxRecDepth 20000 in
theorem ggX5_disconnect_X1_copyFrom : GoodIn wsX5_disconnect wsX1_copyFrom := goodIn_r _ [8, 9, 10, 11, 12, 13, 14, 15, 16, 17, 18, 19, 20, 21, 22, 23, 24, 25, 26, 27, 28, 29, 30, 31, 32, 33, 34, 35, 36, 37, 38, 105, 106, 107, 108, 109, 110, 111, 112, 113, 114, 115, 116, 117, 118, 119, 120, 121] (by decide +kernel) (by decide +kernel)
set_option maxRecDepth 20000 in
theorem gX5_disconnect_X1_copyFrom : GoodIn wsX5_disconnect (wsV RX5 69 RX1 yX1_copyFrom wsX1_copyFrom) := goodIn_app (goodIn_of _ (by decide +kernel)) ggX5_disconnect_X1_copyFrom
set_option maxRecDepth 20000 in
theorem ggX5_disconnect_X3_part : GoodIn wsX5_disconnect wsX3_part := goodIn_r _ [43, 44, 45, 46, 47, 48, 7, 49, 9, 10, 50, 51, 52, 53, 19, 54, 55, 56, 28, 57, 30, 58, 59, 60, 61, 62, 22, 20, 63, 64, 65, 66, 21, 23, 24, 67, 68, 69, 70, 71, 72, 73, 74, 75, 76, 77, 105, 106, 107, 108, 109, 110, 111, 112, 113, 114, 115, 116, 117, 118, 119, 120, 121] (by decide +kernel) (by decide +kernel)
set_option maxRecDepth 20000 in
theorem gX5_disconnect_X3_part : GoodIn wsX5_disconnect (wsV RX5 80 RX3 yX3_part wsX3_part) := goodIn_app (goodIn_of _ (by decide +kernel)) ggX5_disconnect_X3_part
set_option maxRecDepth 20000 in
theorem ggX5_disconnect_X5_recorded : GoodIn wsX5_disconnect wsX5_recorded := goodIn_r _ [81, 82, 1, 83, 84, 85, 86, 87, 88, 89, 90, 32, 33, 34, 91, 92, 93, 94, 95, 96, 5, 6, 7, 8, 9, 10, 11, 12, 13, 14, 15, 16, 17, 18, 19, 20, 21, 22, 23, 24, 25, 26, 27, 28, 29, 30, 31, 35, 36, 37, 38, 97, 98, 99, 100, 101, 102, 103, 104, 122, 123, 124, 105, 106, 107, 108, 109, 110, 111, 112, 113, 114, 115, 116, 117, 118, 119, 120, 121] (by decide +kernel) (by decide +kernel)
set_option maxRecDepth 20000 in
theorem gX5_disconnect_X5_recorded : GoodIn wsX5_disconnect (wsV RX5 76 RX5 yX5_recorded wsX5_recorded) := goodIn_app (goodIn_of _ (by decide +kernel)) ggX5_disconnect_X5_recorded
theorem dX5_disconnect_0 : decode cX5_disconnect 0 = .ok (.aload_n 0, 1) := by decide +kernel
theorem dX5_disconnect_1 : decode cX5_disconnect 1 = .ok (.getfield 16, 3) := by decide +kernel
theorem dX5_disconnect_4 : decode cX5_disconnect 4 = .ok (.aload_n 0, 1) := by decide +kernel
theorem dX5_disconnect_5 : decode cX5_disconnect 5 = .ok (.getfield 12, 3) := by decide +kernel
theorem dX5_disconnect_8 : decode cX5_disconnect 8 = .ok (.invokevirtual 69, 3) := by decide +kernel
theorem dX5_disconnect_11 : decode cX5_disconnect 11 = .ok (.aload_n 0, 1) := by decide +kernel
theorem dX5_disconnect_12 : decode cX5_disconnect 12 = .ok (.aload_n 0, 1) := by decide +kernel
theorem dX5_disconnect_13 : decode cX5_disconnect 13 = .ok (.getfield 28, 3) := by decide +kernel
theorem dX5_disconnect_16 : decode cX5_disconnect 16 = .ok (.aload_n 0, 1) := by decide +kernel
theorem dX5_disconnect_17 : decode cX5_disconnect 17 = .ok (.getfield 12, 3) := by decide +kernel
theorem dX5_disconnect_20 : decode cX5_disconnect 20 = .ok (.iload_n 1, 1) := by decide +kernel
theorem dX5_disconnect_21 : decode cX5_disconnect 21 = .ok (.invokevirtual 80, 3) := by decide +kernel
theorem dX5_disconnect_24 : decode cX5_disconnect 24 = .ok (.invokevirtual 76, 3) := by decide +kernel
theorem dX5_disconnect_27 : decode cX5_disconnect 27 = .ok (.ireturn, 1) := by decide +kernel
set_option maxRecDepth 20000 in
theorem ggX5_takeOut_X1_copyFrom : GoodIn wsX5_takeOut wsX1_copyFrom := goodIn_r _ [8, 9, 10, 11, 12, 13, 14, 15, 16, 17, 18, 19, 20, 21, 22, 23, 24, 25, 26, 27, 28, 29, 30, 31, 32, 33, 34, 35, 36, 37, 38, 161, 162, 163, 164, 165, 166, 167, 168, 169, 170, 171, 172, 173, 174, 175, 176, 177] (by decide +kernel) (by decide +kernel)
set_option maxRecDepth 20000 in
theorem gX5_takeOut_X1_copyFrom : GoodIn wsX5_takeOut (wsV RX5 69 RX1 yX1_copyFrom wsX1_copyFrom) := goodIn_app (goodIn_of _ (by decide +kernel)) ggX5_takeOut_X1_copyFrom
set_option maxRecDepth 20000 in
theorem ggX5_takeOut_X3_retire : GoodIn wsX5_takeOut wsX3_retire := goodIn_r _ [43, 44, 45, 46, 47, 48, 7, 49, 11, 50, 51, 52, 53, 54, 55, 28, 56, 30, 57, 58, 59, 60, 21, 23, 24, 20, 61, 62, 63, 64, 65, 10, 66, 67, 68, 69, 70, 71, 72, 73, 74, 42, 75, 76, 77, 78, 79, 80, 81, 82, 19, 83, 84, 85, 86, 87, 88, 89, 90, 91, 92, 93, 94, 95, 96, 97, 98, 99, 12, 100, 101, 102, 103, 104, 105, 106, 107, 108, 9, 109, 110, 111, 112, 113, 114, 115, 116, 117, 118, 119, 120, 121, 122, 123, 124, 22, 125, 126, 127, 128, 129, 130, 131, 132, 133, 161, 162, 163, 164, 165, 166, 167, 168, 169, 170, 171, 172, 173, 174, 175, 176, 177, 178, 179, 180, 181, 182] (by decide +kernel) (by decide +kernel)
set_option maxRecDepth 20000 in
theorem gX5_takeOut_X3_retire : GoodIn wsX5_takeOut (wsV RX5 84 RX3 yX3_retire wsX3_retire) := goodIn_app (goodIn_of _ (by decide +kernel)) ggX5_takeOut_X3_retire
set_option maxRecDepth 20000 in
theorem ggX5_takeOut_X5_recorded : GoodIn wsX5_takeOut wsX5_recorded := goodIn_r _ [137, 138, 1, 139, 140, 141, 142, 143, 144, 145, 146, 32, 33, 34, 147, 148, 149, 150, 151, 152, 5, 6, 7, 8, 9, 10, 11, 12, 13, 14, 15, 16, 17, 18, 19, 20, 21, 22, 23, 24, 25, 26, 27, 28, 29, 30, 31, 35, 36, 37, 38, 153, 154, 155, 156, 157, 158, 159, 160, 183, 184, 185, 161, 162, 163, 164, 165, 166, 167, 168, 169, 170, 171, 172, 173, 174, 175, 176, 177] (by decide +kernel) (by decide +kernel)
set_option maxRecDepth 20000 in
theorem gX5_takeOut_X5_recorded : GoodIn wsX5_takeOut (wsV RX5 76 RX5 yX5_recorded wsX5_recorded) := goodIn_app (goodIn_of _ (by decide +kernel)) ggX5_takeOut_X5_recorded
theorem dX5_takeOut_0 : decode cX5_takeOut 0 = .ok (.aload_n 0, 1) := by decide +kernel
theorem dX5_takeOut_1 : decode cX5_takeOut 1 = .ok (.getfield 16, 3) := by decide +kernel
theorem dX5_takeOut_4 : decode cX5_takeOut 4 = .ok (.aload_n 0, 1) := by decide +kernel
theorem dX5_takeOut_5 : decode cX5_takeOut 5 = .ok (.getfield 12, 3) := by decide +kernel
theorem dX5_takeOut_8 : decode cX5_takeOut 8 = .ok (.invokevirtual 69, 3) := by decide +kernel
theorem dX5_takeOut_11 : decode cX5_takeOut 11 = .ok (.aload_n 0, 1) := by decide +kernel
theorem dX5_takeOut_12 : decode cX5_takeOut 12 = .ok (.aload_n 0, 1) := by decide +kernel
theorem dX5_takeOut_13 : decode cX5_takeOut 13 = .ok (.getfield 28, 3) := by decide +kernel
theorem dX5_takeOut_16 : decode cX5_takeOut 16 = .ok (.aload_n 0, 1) := by decide +kernel
theorem dX5_takeOut_17 : decode cX5_takeOut 17 = .ok (.getfield 12, 3) := by decide +kernel
theorem dX5_takeOut_20 : decode cX5_takeOut 20 = .ok (.iload_n 1, 1) := by decide +kernel
theorem dX5_takeOut_21 : decode cX5_takeOut 21 = .ok (.invokevirtual 84, 3) := by decide +kernel
theorem dX5_takeOut_24 : decode cX5_takeOut 24 = .ok (.invokevirtual 76, 3) := by decide +kernel
theorem dX5_takeOut_27 : decode cX5_takeOut 27 = .ok (.ireturn, 1) := by decide +kernel
set_option maxRecDepth 20000 in
theorem ggX5_putBack_X1_copyFrom : GoodIn wsX5_putBack wsX1_copyFrom := goodIn_r _ [8, 9, 10, 11, 12, 13, 14, 15, 16, 17, 18, 19, 20, 21, 22, 23, 24, 25, 26, 27, 28, 29, 30, 31, 32, 33, 34, 35, 36, 37, 38, 86, 87, 88, 89, 90, 91, 92, 93, 94, 95, 96, 97, 98, 99, 100, 101, 102] (by decide +kernel) (by decide +kernel)
set_option maxRecDepth 20000 in
theorem gX5_putBack_X1_copyFrom : GoodIn wsX5_putBack (wsV RX5 69 RX1 yX1_copyFrom wsX1_copyFrom) := goodIn_app (goodIn_of _ (by decide +kernel)) ggX5_putBack_X1_copyFrom
set_option maxRecDepth 20000 in
theorem ggX5_putBack_X3_revive : GoodIn wsX5_putBack wsX3_revive := goodIn_r _ [43, 44, 45, 46, 47, 7, 48, 11, 49, 50, 51, 52, 53, 54, 55, 56, 57, 58, 86, 87, 88, 89, 90, 91, 92, 93, 94, 95, 96, 97, 98, 99, 100, 101] (by decide +kernel) (by decide +kernel)
set_option maxRecDepth 20000 in
theorem gX5_putBack_X3_revive : GoodIn wsX5_putBack (wsV RX5 87 RX3 yX3_revive wsX3_revive) := goodIn_app (goodIn_of _ (by decide +kernel)) ggX5_putBack_X3_revive
set_option maxRecDepth 20000 in
theorem ggX5_putBack_X5_recorded : GoodIn wsX5_putBack wsX5_recorded := goodIn_r _ [62, 63, 1, 64, 65, 66, 67, 68, 69, 70, 71, 32, 33, 34, 72, 73, 74, 75, 76, 77, 5, 6, 7, 8, 9, 10, 11, 12, 13, 14, 15, 16, 17, 18, 19, 20, 21, 22, 23, 24, 25, 26, 27, 28, 29, 30, 31, 35, 36, 37, 38, 78, 79, 80, 81, 82, 83, 84, 85, 103, 104, 105, 86, 87, 88, 89, 90, 91, 92, 93, 94, 95, 96, 97, 98, 99, 100, 101, 102] (by decide +kernel) (by decide +kernel)
set_option maxRecDepth 20000 in
theorem gX5_putBack_X5_recorded : GoodIn wsX5_putBack (wsV RX5 76 RX5 yX5_recorded wsX5_recorded) := goodIn_app (goodIn_of _ (by decide +kernel)) ggX5_putBack_X5_recorded
theorem dX5_putBack_0 : decode cX5_putBack 0 = .ok (.aload_n 0, 1) := by decide +kernel
theorem dX5_putBack_1 : decode cX5_putBack 1 = .ok (.getfield 16, 3) := by decide +kernel
theorem dX5_putBack_4 : decode cX5_putBack 4 = .ok (.aload_n 0, 1) := by decide +kernel
theorem dX5_putBack_5 : decode cX5_putBack 5 = .ok (.getfield 12, 3) := by decide +kernel
theorem dX5_putBack_8 : decode cX5_putBack 8 = .ok (.invokevirtual 69, 3) := by decide +kernel
theorem dX5_putBack_11 : decode cX5_putBack 11 = .ok (.aload_n 0, 1) := by decide +kernel
theorem dX5_putBack_12 : decode cX5_putBack 12 = .ok (.aload_n 0, 1) := by decide +kernel
theorem dX5_putBack_13 : decode cX5_putBack 13 = .ok (.getfield 28, 3) := by decide +kernel
theorem dX5_putBack_16 : decode cX5_putBack 16 = .ok (.aload_n 0, 1) := by decide +kernel
theorem dX5_putBack_17 : decode cX5_putBack 17 = .ok (.getfield 12, 3) := by decide +kernel
theorem dX5_putBack_20 : decode cX5_putBack 20 = .ok (.iload_n 1, 1) := by decide +kernel
theorem dX5_putBack_21 : decode cX5_putBack 21 = .ok (.invokevirtual 87, 3) := by decide +kernel
theorem dX5_putBack_24 : decode cX5_putBack 24 = .ok (.invokevirtual 76, 3) := by decide +kernel
theorem dX5_putBack_27 : decode cX5_putBack 27 = .ok (.ireturn, 1) := by decide +kernel
set_option maxRecDepth 20000 in
theorem ggX5_pack_X1_copyFrom : GoodIn wsX5_pack wsX1_copyFrom := goodIn_r _ [8, 9, 10, 11, 12, 13, 14, 15, 16, 17, 18, 19, 20, 21, 22, 23, 24, 25, 26, 27, 28, 29, 30, 31, 32, 33, 34, 35, 36, 37, 38, 181, 182, 183, 184, 185, 186, 187, 188, 189, 190, 191, 192, 193, 194, 195, 196, 197] (by decide +kernel) (by decide +kernel)
set_option maxRecDepth 20000 in
theorem gX5_pack_X1_copyFrom : GoodIn wsX5_pack (wsV RX5 69 RX1 yX1_copyFrom wsX1_copyFrom) := goodIn_app (goodIn_of _ (by decide +kernel)) ggX5_pack_X1_copyFrom
set_option maxRecDepth 20000 in
theorem ggX5_pack_X3_repack : GoodIn wsX5_pack wsX3_repack := goodIn_r _ [43, 44, 45, 46, 47, 48, 49, 50, 7, 51, 19, 52, 53, 54, 28, 55, 30, 56, 57, 58, 59, 9, 10, 60, 61, 33, 62, 63, 64, 65, 66, 67, 68, 69, 70, 22, 71, 72, 42, 73, 74, 75, 76, 77, 26, 27, 29, 31, 32, 34, 35, 36, 37, 38, 78, 79, 80, 81, 21, 23, 24, 20, 82, 83, 84, 85, 86, 87, 88, 89, 90, 91, 92, 93, 94, 95, 96, 97, 98, 99, 100, 101, 102, 103, 104, 105, 106, 107, 108, 109, 110, 111, 112, 113, 114, 115, 11, 12, 116, 117, 118, 119, 120, 121, 122, 123, 124, 125, 126, 127, 128, 129, 130, 131, 132, 133, 134, 135, 136, 137, 138, 139, 140, 141, 142, 143, 144, 145, 146, 147, 148, 149, 150, 151, 152, 153, 181, 182, 183, 184, 185, 186, 187, 188, 189, 190, 191, 192, 193, 194, 195, 196, 198, 199, 200, 201, 202, 197] (by decide +kernel) (by decide +kernel)
set_option maxRecDepth 20000 in
theorem gX5_pack_X3_repack : GoodIn wsX5_pack (wsV RX5 90 RX3 yX3_repack wsX3_repack) := goodIn_app (goodIn_of _ (by decide +kernel)) ggX5_pack_X3_repack
set_option maxRecDepth 20000 in
theorem ggX5_pack_X5_recorded : GoodIn wsX5_pack wsX5_recorded := goodIn_r _ [157, 158, 1, 159, 160, 161, 162, 163, 164, 165, 166, 32, 33, 34, 167, 168, 169, 170, 171, 172, 5, 6, 7, 8, 9, 10, 11, 12, 13, 14, 15, 16, 17, 18, 19, 20, 21, 22, 23, 24, 25, 26, 27, 28, 29, 30, 31, 35, 36, 37, 38, 173, 174, 175, 176, 177, 178, 179, 180, 203, 204, 205, 181, 182, 183, 184, 185, 186, 187, 188, 189, 190, 191, 192, 193, 194, 195, 196, 197] (by decide +kernel) (by decide +kernel)
set_option maxRecDepth 20000 in
theorem gX5_pack_X5_recorded : GoodIn wsX5_pack (wsV RX5 76 RX5 yX5_recorded wsX5_recorded) := goodIn_app (goodIn_of _ (by decide +kernel)) ggX5_pack_X5_recorded
theorem dX5_pack_0 : decode cX5_pack 0 = .ok (.aload_n 0, 1) := by decide +kernel
theorem dX5_pack_1 : decode cX5_pack 1 = .ok (.getfield 16, 3) := by decide +kernel
theorem dX5_pack_4 : decode cX5_pack 4 = .ok (.aload_n 0, 1) := by decide +kernel
theorem dX5_pack_5 : decode cX5_pack 5 = .ok (.getfield 12, 3) := by decide +kernel
theorem dX5_pack_8 : decode cX5_pack 8 = .ok (.invokevirtual 69, 3) := by decide +kernel
theorem dX5_pack_11 : decode cX5_pack 11 = .ok (.aload_n 0, 1) := by decide +kernel
theorem dX5_pack_12 : decode cX5_pack 12 = .ok (.aload_n 0, 1) := by decide +kernel
theorem dX5_pack_13 : decode cX5_pack 13 = .ok (.getfield 28, 3) := by decide +kernel
theorem dX5_pack_16 : decode cX5_pack 16 = .ok (.aload_n 0, 1) := by decide +kernel
theorem dX5_pack_17 : decode cX5_pack 17 = .ok (.getfield 12, 3) := by decide +kernel
theorem dX5_pack_20 : decode cX5_pack 20 = .ok (.invokevirtual 90, 3) := by decide +kernel
theorem dX5_pack_23 : decode cX5_pack 23 = .ok (.invokevirtual 76, 3) := by decide +kernel
theorem dX5_pack_26 : decode cX5_pack 26 = .ok (.ireturn, 1) := by decide +kernel
set_option maxRecDepth 20000 in
theorem ggX5_type_X2_append : GoodIn wsX5_type wsX2_append := goodIn_r _ [6, 7, 8, 9, 10, 11, 12, 13, 14, 23, 24, 25, 26, 27, 28, 29] (by decide +kernel) (by decide +kernel)
set_option maxRecDepth 20000 in
theorem gX5_type_X2_append : GoodIn wsX5_type (wsV RX5 94 RX2 yX2_append wsX2_append) := goodIn_app (goodIn_of _ (by decide +kernel)) ggX5_type_X2_append
theorem dX5_type_0 : decode cX5_type 0 = .ok (.aload_n 0, 1) := by decide +kernel
theorem dX5_type_1 : decode cX5_type 1 = .ok (.getfield 42, 3) := by decide +kernel
theorem dX5_type_4 : decode cX5_type 4 = .ok (.iload_n 1, 1) := by decide +kernel
theorem dX5_type_5 : decode cX5_type 5 = .ok (.invokevirtual 94, 3) := by decide +kernel
theorem dX5_type_8 : decode cX5_type 8 = .ok (.ireturn, 1) := by decide +kernel
theorem dX5_clearText_0 : decode cX5_clearText 0 = .ok (.aload_n 0, 1) := by decide +kernel
theorem dX5_clearText_1 : decode cX5_clearText 1 = .ok (.getfield 42, 3) := by decide +kernel
theorem dX5_clearText_4 : decode cX5_clearText 4 = .ok (.getfield 97, 3) := by decide +kernel
theorem dX5_clearText_7 : decode cX5_clearText 7 = .ok (.istore_n 1, 1) := by decide +kernel
theorem dX5_clearText_8 : decode cX5_clearText 8 = .ok (.aload_n 0, 1) := by decide +kernel
theorem dX5_clearText_9 : decode cX5_clearText 9 = .ok (.getfield 42, 3) := by decide +kernel
theorem dX5_clearText_12 : decode cX5_clearText 12 = .ok (.iconst 0, 1) := by decide +kernel
theorem dX5_clearText_13 : decode cX5_clearText 13 = .ok (.putfield 97, 3) := by decide +kernel
theorem dX5_clearText_16 : decode cX5_clearText 16 = .ok (.iload_n 1, 1) := by decide +kernel
theorem dX5_clearText_17 : decode cX5_clearText 17 = .ok (.ireturn, 1) := by decide +kernel
set_option maxRecDepth 20000 in
theorem ggX5_perform_X2_findFault : GoodIn wsX5_perform wsX2_findFault := goodIn_r _ [8, 9, 10, 11, 12, 13, 7, 14, 15, 16, 17, 18, 19, 20, 21, 22, 23, 24, 25, 26, 27, 28, 29, 30, 31, 32, 33, 34, 35, 36, 37, 38, 39, 40, 41, 42, 43, 44, 268, 269, 270, 271, 272, 273, 274] (by decide +kernel) (by decide +kernel)
set_option maxRecDepth 20000 in
theorem gX5_perform_X2_findFault : GoodIn wsX5_perform (wsV RX5 100 RX2 yX2_findFault wsX2_findFault) := goodIn_app (goodIn_of _ (by decide +kernel)) ggX5_perform_X2_findFault
set_option maxRecDepth 20000 in
theorem ggX5_perform_X1_copyFrom : GoodIn wsX5_perform wsX1_copyFrom := goodIn_r _ [49, 50, 51, 52, 53, 54, 55, 56, 57, 58, 59, 60, 61, 62, 63, 64, 65, 66, 67, 68, 30, 69, 32, 70, 71, 39, 72, 73, 74, 75, 76, 275, 276, 277, 278, 279, 280, 281, 282, 283, 284, 285, 286, 287, 288, 289, 290, 274] (by decide +kernel) (by decide +kernel)
set_option maxRecDepth 20000 in
theorem gX5_perform_X1_copyFrom : GoodIn wsX5_perform (wsV RX5 69 RX1 yX1_copyFrom wsX1_copyFrom) := goodIn_app (goodIn_of _ (by decide +kernel)) ggX5_perform_X1_copyFrom
set_option maxRecDepth 20000 in
theorem ggX5_perform_X2_rewind : GoodIn wsX5_perform wsX2_rewind := goodIn_r _ [14, 9, 268, 269, 270, 271, 272, 273] (by decide +kernel) (by decide +kernel)
set_option maxRecDepth 20000 in
theorem gX5_perform_X2_rewind : GoodIn wsX5_perform (wsV RX5 104 RX2 yX2_rewind wsX2_rewind) := goodIn_app (goodIn_of _ (by decide +kernel)) ggX5_perform_X2_rewind
set_option maxRecDepth 20000 in
theorem ggX5_perform_X2_readOrder : GoodIn wsX5_perform wsX2_readOrder := goodIn_r _ [18, 19, 9, 20, 21, 22, 23, 24, 7, 25, 10, 26, 27, 28, 29, 30, 31, 32, 33, 34, 35, 36, 37, 38, 39, 40, 41, 42, 43, 44, 268, 269, 270, 271, 272, 273, 274] (by decide +kernel) (by decide +kernel)
set_option maxRecDepth 20000 in
theorem gX5_perform_X2_readOrder : GoodIn wsX5_perform (wsV RX5 107 RX2 yX2_readOrder wsX2_readOrder) := goodIn_app (goodIn_of _ (by decide +kernel)) ggX5_perform_X2_readOrder
set_option maxRecDepth 20000 in
theorem ggX5_perform_X5_obey : GoodIn wsX5_perform wsX5_obey := goodIn_r _ [83, 1, 84, 85, 3, 86, 87, 88, 89, 90, 91, 92, 93, 94, 95, 96, 97, 98, 99, 48, 100, 50, 51, 101, 102, 103, 104, 60, 105, 28, 29, 30, 31, 32, 106, 107, 108, 109, 63, 110, 111, 112, 113, 114, 115, 116, 117, 118, 119, 120, 121, 122, 123, 124, 125, 52, 53, 126, 82, 127, 128, 129, 130, 131, 132, 133, 134, 135, 136, 137, 138, 64, 139, 140, 141, 142, 143, 144, 145, 146, 147, 148, 149, 150, 151, 152, 153, 154, 155, 156, 157, 158, 159, 56, 61, 160, 161, 162, 163, 164, 165, 166, 167, 168, 169, 62, 65, 170, 171, 172, 173, 174, 175, 176, 177, 178, 179, 180, 181, 182, 183, 184, 185, 186, 187, 188, 189, 190, 191, 192, 193, 194, 195, 196, 197, 198, 199, 200, 201, 202, 203, 204, 205, 206, 207, 208, 209, 210, 211, 212, 213, 214, 215, 216, 217, 218, 219, 220, 221, 222, 223, 224, 225, 226, 227, 228, 229, 230, 38, 39, 40, 231, 232, 233, 234, 235, 67, 68, 69, 70, 71, 72, 73, 74, 75, 76, 236, 237, 238, 239, 260, 261, 262, 263, 264, 265, 266, 267, 268, 269, 270, 271, 272, 273, 275, 276, 277, 278, 279, 280, 281, 282, 283, 284, 285, 286, 287, 288, 289, 290, 274, 291, 292, 293, 294, 295] (by decide +kernel) (by decide +kernel)
set_option maxRecDepth 20000 in
theorem gX5_perform_X5_obey : GoodIn wsX5_perform (wsV RX5 111 RX5 yX5_obey wsX5_obey) := goodIn_app (goodIn_of _ (by decide +kernel)) ggX5_perform_X5_obey
set_option maxRecDepth 20000 in
theorem ggX5_perform_X2_skip : GoodIn wsX5_perform wsX2_skip := goodIn_r _ [44, 9, 22, 23, 24, 7, 25, 10, 26, 27, 28, 29, 30, 31, 32, 268, 269, 270, 271, 272, 273, 274] (by decide +kernel) (by decide +kernel)
set_option maxRecDepth 20000 in
theorem gX5_perform_X2_skip : GoodIn wsX5_perform (wsV RX5 114 RX2 yX2_skip wsX2_skip) := goodIn_app (goodIn_of _ (by decide +kernel)) ggX5_perform_X2_skip
set_option maxRecDepth 20000 in
theorem ggX5_perform_X5_recorded : GoodIn wsX5_perform wsX5_recorded := goodIn_r _ [244, 245, 2, 246, 247, 248, 249, 250, 251, 252, 253, 71, 39, 72, 254, 255, 256, 257, 258, 259, 46, 47, 48, 49, 50, 51, 52, 53, 54, 55, 56, 57, 58, 59, 60, 61, 62, 63, 64, 65, 66, 67, 68, 30, 69, 32, 70, 73, 74, 75, 76, 260, 261, 262, 263, 264, 265, 266, 267, 296, 297, 298, 275, 276, 277, 278, 279, 280, 281, 282, 283, 284, 285, 286, 287, 288, 289, 290, 274] (by decide +kernel) (by decide +kernel)
set_option maxRecDepth 20000 in
theorem gX5_perform_X5_recorded : GoodIn wsX5_perform (wsV RX5 76 RX5 yX5_recorded wsX5_recorded) := goodIn_app (goodIn_of _ (by decide +kernel)) ggX5_perform_X5_recorded
theorem dX5_perform_0 : decode cX5_perform 0 = .ok (.aload_n 0, 1) := by decide +kernel
theorem dX5_perform_1 : decode cX5_perform 1 = .ok (.getfield 42, 3) := by decide +kernel
theorem dX5_perform_4 : decode cX5_perform 4 = .ok (.invokevirtual 100, 3) := by decide +kernel
theorem dX5_perform_7 : decode cX5_perform 7 = .ok (.istore_n 1, 1) := by decide +kernel
theorem dX5_perform_8 : decode cX5_perform 8 = .ok (.iload_n 1, 1) := by decide +kernel
theorem dX5_perform_9 : decode cX5_perform 9 = .ok (.bipush (-6), 2) := by decide +kernel
theorem dX5_perform_11 : decode cX5_perform 11 = .ok (.if_icmp .eq 8, 3) := by decide +kernel
theorem dX5_perform_14 : decode cX5_perform 14 = .ok (.bipush (-100), 2) := by decide +kernel
theorem dX5_perform_16 : decode cX5_perform 16 = .ok (.iload_n 1, 1) := by decide +kernel
theorem dX5_perform_17 : decode cX5_perform 17 = .ok (.isub, 1) := by decide +kernel
theorem dX5_perform_18 : decode cX5_perform 18 = .ok (.ireturn, 1) := by decide +kernel
theorem dX5_perform_19 : decode cX5_perform 19 = .ok (.aload_n 0, 1) := by decide +kernel
theorem dX5_perform_20 : decode cX5_perform 20 = .ok (.getfield 16, 3) := by decide +kernel
theorem dX5_perform_23 : decode cX5_perform 23 = .ok (.aload_n 0, 1) := by decide +kernel
theorem dX5_perform_24 : decode cX5_perform 24 = .ok (.getfield 12, 3) := by decide +kernel
theorem dX5_perform_27 : decode cX5_perform 27 = .ok (.invokevirtual 69, 3) := by decide +kernel
theorem dX5_perform_30 : decode cX5_perform 30 = .ok (.iconst 0, 1) := by decide +kernel
theorem dX5_perform_31 : decode cX5_perform 31 = .ok (.istore_n 2, 1) := by decide +kernel
theorem dX5_perform_32 : decode cX5_perform 32 = .ok (.aload_n 0, 1) := by decide +kernel
theorem dX5_perform_33 : decode cX5_perform 33 = .ok (.getfield 42, 3) := by decide +kernel
theorem dX5_perform_36 : decode cX5_perform 36 = .ok (.invokevirtual 104, 3) := by decide +kernel
theorem dX5_perform_39 : decode cX5_perform 39 = .ok (.iload_n 2, 1) := by decide +kernel
theorem dX5_perform_40 : decode cX5_perform 40 = .ok (.bipush 60, 2) := by decide +kernel
theorem dX5_perform_42 : decode cX5_perform 42 = .ok (.if_icmp .gt 57, 3) := by decide +kernel
theorem dX5_perform_45 : decode cX5_perform 45 = .ok (.aload_n 0, 1) := by decide +kernel
theorem dX5_perform_46 : decode cX5_perform 46 = .ok (.getfield 42, 3) := by decide +kernel
theorem dX5_perform_49 : decode cX5_perform 49 = .ok (.invokevirtual 107, 3) := by decide +kernel
theorem dX5_perform_52 : decode cX5_perform 52 = .ok (.ifCond .eq 47, 3) := by decide +kernel
theorem dX5_perform_55 : decode cX5_perform 55 = .ok (.aload_n 0, 1) := by decide +kernel
theorem dX5_perform_56 : decode cX5_perform 56 = .ok (.invokevirtual 111, 3) := by decide +kernel
theorem dX5_perform_59 : decode cX5_perform 59 = .ok (.istore_n 3, 1) := by decide +kernel
theorem dX5_perform_60 : decode cX5_perform 60 = .ok (.iload_n 3, 1) := by decide +kernel
theorem dX5_perform_61 : decode cX5_perform 61 = .ok (.ifCond .ge 22, 3) := by decide +kernel
theorem dX5_perform_64 : decode cX5_perform 64 = .ok (.iload_n 3, 1) := by decide +kernel
theorem dX5_perform_65 : decode cX5_perform 65 = .ok (.bipush (-6), 2) := by decide +kernel
theorem dX5_perform_67 : decode cX5_perform 67 = .ok (.if_icmp .eq 16, 3) := by decide +kernel
theorem dX5_perform_70 : decode cX5_perform 70 = .ok (.aload_n 0, 1) := by decide +kernel
theorem dX5_perform_71 : decode cX5_perform 71 = .ok (.getfield 12, 3) := by decide +kernel
theorem dX5_perform_74 : decode cX5_perform 74 = .ok (.aload_n 0, 1) := by decide +kernel
theorem dX5_perform_75 : decode cX5_perform 75 = .ok (.getfield 16, 3) := by decide +kernel
theorem dX5_perform_78 : decode cX5_perform 78 = .ok (.invokevirtual 69, 3) := by decide +kernel
theorem dX5_perform_81 : decode cX5_perform 81 = .ok (.iload_n 3, 1) := by decide +kernel
theorem dX5_perform_82 : decode cX5_perform 82 = .ok (.ireturn, 1) := by decide +kernel
theorem dX5_perform_83 : decode cX5_perform 83 = .ok (.iinc 2 1, 3) := by decide +kernel
theorem dX5_perform_86 : decode cX5_perform 86 = .ok (.aload_n 0, 1) := by decide +kernel
theorem dX5_perform_87 : decode cX5_perform 87 = .ok (.getfield 42, 3) := by decide +kernel
theorem dX5_perform_90 : decode cX5_perform 90 = .ok (.bipush 59, 2) := by decide +kernel
theorem dX5_perform_92 : decode cX5_perform 92 = .ok (.invokevirtual 114, 3) := by decide +kernel
theorem dX5_perform_95 : decode cX5_perform 95 = .ok (.pop, 1) := by decide +kernel
theorem dX5_perform_96 : decode cX5_perform 96 = .ok (.goto (-57), 3) := by decide +kernel
theorem dX5_perform_99 : decode cX5_perform 99 = .ok (.aload_n 0, 1) := by decide +kernel
theorem dX5_perform_100 : decode cX5_perform 100 = .ok (.iload_n 2, 1) := by decide +kernel
theorem dX5_perform_101 : decode cX5_perform 101 = .ok (.invokevirtual 76, 3) := by decide +kernel
theorem dX5_perform_104 : decode cX5_perform 104 = .ok (.ireturn, 1) := by decide +kernel
set_option maxRecDepth 20000 in
theorem ggX5_undo_X0_takeBack : GoodIn wsX5_undo wsX0_takeBack := goodIn_r _ [7, 8, 9, 10, 11, 12, 6, 13, 14, 15, 16, 17, 18, 19, 20, 21, 22, 23, 24, 25, 26, 27, 28, 29, 30, 31, 32, 33, 34, 35, 36, 37, 38, 39, 40, 41, 42, 43, 44, 45, 46, 47, 48, 49, 58, 59, 60, 61, 62, 63, 64, 65, 66, 67, 68, 69, 70, 71, 72, 73, 74, 75, 76, 77] (by decide +kernel) (by decide +kernel)
set_option maxRecDepth 20000 in
theorem gX5_undo_X0_takeBack : GoodIn wsX5_undo (wsV RX5 118 RX0 yX0_takeBack wsX0_takeBack) := goodIn_app (goodIn_of _ (by decide +kernel)) ggX5_undo_X0_takeBack
theorem dX5_undo_0 : decode cX5_undo 0 = .ok (.aload_n 0, 1) := by decide +kernel
theorem dX5_undo_1 : decode cX5_undo 1 = .ok (.getfield 35, 3) := by decide +kernel
theorem dX5_undo_4 : decode cX5_undo 4 = .ok (.aload_n 0, 1) := by decide +kernel
theorem dX5_undo_5 : decode cX5_undo 5 = .ok (.getfield 12, 3) := by decide +kernel
theorem dX5_undo_8 : decode cX5_undo 8 = .ok (.invokevirtual 118, 3) := by decide +kernel
theorem dX5_undo_11 : decode cX5_undo 11 = .ok (.ireturn, 1) := by decide +kernel
set_option maxRecDepth 20000 in
theorem ggX5_keep_X1_copyFrom : GoodIn wsX5_keep wsX1_copyFrom := goodIn_r _ [8, 9, 10, 11, 12, 13, 14, 15, 16, 17, 18, 19, 20, 21, 22, 23, 24, 25, 26, 27, 28, 29, 30, 31, 32, 33, 34, 35, 36, 37, 38, 55, 56, 57, 58, 59, 60, 61, 62, 63, 64, 65, 66, 67, 68, 69, 70, 71] (by decide +kernel) (by decide +kernel)
set_option maxRecDepth 20000 in
theorem gX5_keep_X1_copyFrom : GoodIn wsX5_keep (wsV RX5 69 RX1 yX1_copyFrom wsX1_copyFrom) := goodIn_app (goodIn_of _ (by decide +kernel)) ggX5_keep_X1_copyFrom
set_option maxRecDepth 20000 in
theorem ggX5_keep_X1_countCalls : GoodIn wsX5_keep wsX1_countCalls := goodIn_r _ [42, 19, 43, 44, 45, 28, 46, 30, 55, 56, 57, 58, 59, 60, 61, 62, 63, 64, 65, 66, 67, 68, 69, 70, 71] (by decide +kernel) (by decide +kernel)
set_option maxRecDepth 20000 in
theorem gX5_keep_X1_countCalls : GoodIn wsX5_keep (wsV RX5 121 RX1 yX1_countCalls wsX1_countCalls) := goodIn_app (goodIn_of _ (by decide +kernel)) ggX5_keep_X1_countCalls
theorem dX5_keep_0 : decode cX5_keep 0 = .ok (.aload_n 0, 1) := by decide +kernel
theorem dX5_keep_1 : decode cX5_keep 1 = .ok (.getfield 19, 3) := by decide +kernel
theorem dX5_keep_4 : decode cX5_keep 4 = .ok (.aload_n 0, 1) := by decide +kernel
theorem dX5_keep_5 : decode cX5_keep 5 = .ok (.getfield 12, 3) := by decide +kernel
theorem dX5_keep_8 : decode cX5_keep 8 = .ok (.invokevirtual 69, 3) := by decide +kernel
theorem dX5_keep_11 : decode cX5_keep 11 = .ok (.aload_n 0, 1) := by decide +kernel
theorem dX5_keep_12 : decode cX5_keep 12 = .ok (.iconst 1, 1) := by decide +kernel
theorem dX5_keep_13 : decode cX5_keep 13 = .ok (.putfield 46, 3) := by decide +kernel
theorem dX5_keep_16 : decode cX5_keep 16 = .ok (.aload_n 0, 1) := by decide +kernel
theorem dX5_keep_17 : decode cX5_keep 17 = .ok (.getfield 12, 3) := by decide +kernel
theorem dX5_keep_20 : decode cX5_keep 20 = .ok (.invokevirtual 121, 3) := by decide +kernel
theorem dX5_keep_23 : decode cX5_keep 23 = .ok (.ireturn, 1) := by decide +kernel
set_option maxRecDepth 20000 in
theorem ggX5_restore_X0_push : GoodIn wsX5_restore wsX0_push := goodIn_r _ [9, 10, 11, 12, 13, 14, 15, 16, 17, 18, 8, 19, 20, 21, 22, 23, 24, 25, 26, 27, 28, 29, 30, 31, 32, 33, 34, 35, 36, 37, 38, 39, 40, 41, 42, 43, 44, 45, 46, 47, 48, 49, 50, 51, 52, 70, 71, 72, 73, 74, 75, 76, 77, 78, 79, 80, 81, 82, 83, 84, 85, 86, 87, 88, 89] (by decide +kernel) (by decide +kernel)
set_option maxRecDepth 20000 in
theorem gX5_restore_X0_push : GoodIn wsX5_restore (wsV RX5 54 RX0 yX0_push wsX0_push) := goodIn_app (goodIn_of _ (by decide +kernel)) ggX5_restore_X0_push
set_option maxRecDepth 20000 in
theorem ggX5_restore_X1_copyFrom : GoodIn wsX5_restore wsX1_copyFrom := goodIn_r _ [25, 26, 27, 28, 29, 30, 31, 32, 33, 34, 35, 36, 37, 38, 39, 40, 41, 42, 43, 44, 45, 46, 47, 48, 13, 14, 15, 49, 50, 51, 52, 73, 74, 75, 76, 77, 78, 79, 80, 81, 82, 83, 84, 85, 86, 87, 88, 89] (by decide +kernel) (by decide +kernel)
set_option maxRecDepth 20000 in
theorem gX5_restore_X1_copyFrom : GoodIn wsX5_restore (wsV RX5 69 RX1 yX1_copyFrom wsX1_copyFrom) := goodIn_app (goodIn_of _ (by decide +kernel)) ggX5_restore_X1_copyFrom
set_option maxRecDepth 20000 in
theorem ggX5_restore_X1_countCalls : GoodIn wsX5_restore wsX1_countCalls := goodIn_r _ [57, 36, 58, 59, 60, 45, 61, 47, 73, 74, 75, 76, 77, 78, 79, 80, 81, 82, 83, 84, 85, 86, 87, 88, 89] (by decide +kernel) (by decide +kernel)
set_option maxRecDepth 20000 in
theorem gX5_restore_X1_countCalls : GoodIn wsX5_restore (wsV RX5 121 RX1 yX1_countCalls wsX1_countCalls) := goodIn_app (goodIn_of _ (by decide +kernel)) ggX5_restore_X1_countCalls
theorem dX5_restore_0 : decode cX5_restore 0 = .ok (.aload_n 0, 1) := by decide +kernel
theorem dX5_restore_1 : decode cX5_restore 1 = .ok (.getfield 46, 3) := by decide +kernel
theorem dX5_restore_4 : decode cX5_restore 4 = .ok (.ifCond .ne 6, 3) := by decide +kernel
theorem dX5_restore_7 : decode cX5_restore 7 = .ok (.bipush (-6), 2) := by decide +kernel
theorem dX5_restore_9 : decode cX5_restore 9 = .ok (.ireturn, 1) := by decide +kernel
theorem dX5_restore_10 : decode cX5_restore 10 = .ok (.aload_n 0, 1) := by decide +kernel
theorem dX5_restore_11 : decode cX5_restore 11 = .ok (.getfield 35, 3) := by decide +kernel
theorem dX5_restore_14 : decode cX5_restore 14 = .ok (.aload_n 0, 1) := by decide +kernel
theorem dX5_restore_15 : decode cX5_restore 15 = .ok (.getfield 12, 3) := by decide +kernel
theorem dX5_restore_18 : decode cX5_restore 18 = .ok (.invokevirtual 54, 3) := by decide +kernel
theorem dX5_restore_21 : decode cX5_restore 21 = .ok (.aload_n 0, 1) := by decide +kernel
theorem dX5_restore_22 : decode cX5_restore 22 = .ok (.getfield 12, 3) := by decide +kernel
theorem dX5_restore_25 : decode cX5_restore 25 = .ok (.aload_n 0, 1) := by decide +kernel
theorem dX5_restore_26 : decode cX5_restore 26 = .ok (.getfield 19, 3) := by decide +kernel
theorem dX5_restore_29 : decode cX5_restore 29 = .ok (.invokevirtual 69, 3) := by decide +kernel
theorem dX5_restore_32 : decode cX5_restore 32 = .ok (.aload_n 0, 1) := by decide +kernel
theorem dX5_restore_33 : decode cX5_restore 33 = .ok (.getfield 12, 3) := by decide +kernel
theorem dX5_restore_36 : decode cX5_restore 36 = .ok (.invokevirtual 121, 3) := by decide +kernel
theorem dX5_restore_39 : decode cX5_restore 39 = .ok (.ireturn, 1) := by decide +kernel
set_option maxRecDepth 20000 in
theorem ggX5_callOfInlet_X1_isLine : GoodIn wsX5_callOfInlet wsX1_isLine := goodIn_r _ [7, 8, 9, 24, 25, 26, 27, 28, 29, 30, 31, 32, 33, 34, 35, 36, 37, 38, 39] (by decide +kernel) (by decide +kernel)
set_option maxRecDepth 20000 in
theorem gX5_callOfInlet_X1_isLine : GoodIn wsX5_callOfInlet (wsV RX5 124 RX1 yX1_isLine wsX1_isLine) := goodIn_app (goodIn_of _ (by decide +kernel)) ggX5_callOfInlet_X1_isLine
set_option maxRecDepth 20000 in
theorem ggX5_callOfInlet_X4_get : GoodIn wsX5_callOfInlet wsX4_get := goodIn_r _ [14, 15, 40] (by decide +kernel) (by decide +kernel)
set_option maxRecDepth 20000 in
theorem gX5_callOfInlet_X4_get : GoodIn wsX5_callOfInlet (wsV RX5 131 RX4 yX4_get wsX4_get) := goodIn_app (goodIn_of _ (by decide +kernel)) ggX5_callOfInlet_X4_get
theorem dX5_callOfInlet_0 : decode cX5_callOfInlet 0 = .ok (.aload_n 0, 1) := by decide +kernel
theorem dX5_callOfInlet_1 : decode cX5_callOfInlet 1 = .ok (.getfield 12, 3) := by decide +kernel
theorem dX5_callOfInlet_4 : decode cX5_callOfInlet 4 = .ok (.iload_n 1, 1) := by decide +kernel
theorem dX5_callOfInlet_5 : decode cX5_callOfInlet 5 = .ok (.invokevirtual 124, 3) := by decide +kernel
theorem dX5_callOfInlet_8 : decode cX5_callOfInlet 8 = .ok (.ifCond .eq 17, 3) := by decide +kernel
theorem dX5_callOfInlet_11 : decode cX5_callOfInlet 11 = .ok (.aload_n 0, 1) := by decide +kernel
theorem dX5_callOfInlet_12 : decode cX5_callOfInlet 12 = .ok (.getfield 12, 3) := by decide +kernel
theorem dX5_callOfInlet_15 : decode cX5_callOfInlet 15 = .ok (.getfield 127, 3) := by decide +kernel
theorem dX5_callOfInlet_18 : decode cX5_callOfInlet 18 = .ok (.iload_n 1, 1) := by decide +kernel
theorem dX5_callOfInlet_19 : decode cX5_callOfInlet 19 = .ok (.invokevirtual 131, 3) := by decide +kernel
theorem dX5_callOfInlet_22 : decode cX5_callOfInlet 22 = .ok (.goto 4, 3) := by decide +kernel
theorem dX5_callOfInlet_25 : decode cX5_callOfInlet 25 = .ok (.iconst (-1), 1) := by decide +kernel
theorem dX5_callOfInlet_26 : decode cX5_callOfInlet 26 = .ok (.ireturn, 1) := by decide +kernel
set_option maxRecDepth 20000 in
theorem ggX5_callOfOutlet_X1_isLine : GoodIn wsX5_callOfOutlet wsX1_isLine := goodIn_r _ [8, 9, 10, 25, 26, 27, 28, 29, 30, 31, 32, 33, 34, 35, 36, 37, 38, 39, 40] (by decide +kernel) (by decide +kernel)
set_option maxRecDepth 20000 in
theorem gX5_callOfOutlet_X1_isLine : GoodIn wsX5_callOfOutlet (wsV RX5 124 RX1 yX1_isLine wsX1_isLine) := goodIn_app (goodIn_of _ (by decide +kernel)) ggX5_callOfOutlet_X1_isLine
set_option maxRecDepth 20000 in
theorem ggX5_callOfOutlet_X4_get : GoodIn wsX5_callOfOutlet wsX4_get := goodIn_r _ [15, 16, 41] (by decide +kernel) (by decide +kernel)
set_option maxRecDepth 20000 in
theorem gX5_callOfOutlet_X4_get : GoodIn wsX5_callOfOutlet (wsV RX5 131 RX4 yX4_get wsX4_get) := goodIn_app (goodIn_of _ (by decide +kernel)) ggX5_callOfOutlet_X4_get
theorem dX5_callOfOutlet_0 : decode cX5_callOfOutlet 0 = .ok (.aload_n 0, 1) := by decide +kernel
theorem dX5_callOfOutlet_1 : decode cX5_callOfOutlet 1 = .ok (.getfield 12, 3) := by decide +kernel
theorem dX5_callOfOutlet_4 : decode cX5_callOfOutlet 4 = .ok (.iload_n 1, 1) := by decide +kernel
theorem dX5_callOfOutlet_5 : decode cX5_callOfOutlet 5 = .ok (.invokevirtual 124, 3) := by decide +kernel
theorem dX5_callOfOutlet_8 : decode cX5_callOfOutlet 8 = .ok (.ifCond .ne 5, 3) := by decide +kernel
theorem dX5_callOfOutlet_11 : decode cX5_callOfOutlet 11 = .ok (.iconst (-1), 1) := by decide +kernel
theorem dX5_callOfOutlet_12 : decode cX5_callOfOutlet 12 = .ok (.ireturn, 1) := by decide +kernel
theorem dX5_callOfOutlet_13 : decode cX5_callOfOutlet 13 = .ok (.aload_n 0, 1) := by decide +kernel
theorem dX5_callOfOutlet_14 : decode cX5_callOfOutlet 14 = .ok (.getfield 12, 3) := by decide +kernel
theorem dX5_callOfOutlet_17 : decode cX5_callOfOutlet 17 = .ok (.getfield 127, 3) := by decide +kernel
theorem dX5_callOfOutlet_20 : decode cX5_callOfOutlet 20 = .ok (.aload_n 0, 1) := by decide +kernel
theorem dX5_callOfOutlet_21 : decode cX5_callOfOutlet 21 = .ok (.getfield 12, 3) := by decide +kernel
theorem dX5_callOfOutlet_24 : decode cX5_callOfOutlet 24 = .ok (.getfield 136, 3) := by decide +kernel
theorem dX5_callOfOutlet_27 : decode cX5_callOfOutlet 27 = .ok (.iload_n 1, 1) := by decide +kernel
theorem dX5_callOfOutlet_28 : decode cX5_callOfOutlet 28 = .ok (.invokevirtual 131, 3) := by decide +kernel
theorem dX5_callOfOutlet_31 : decode cX5_callOfOutlet 31 = .ok (.invokevirtual 131, 3) := by decide +kernel
theorem dX5_callOfOutlet_34 : decode cX5_callOfOutlet 34 = .ok (.ireturn, 1) := by decide +kernel
set_option maxRecDepth 20000 in
theorem ggX5_inletOf_X1_findInlet : GoodIn wsX5_inletOf wsX1_findInlet := goodIn_r _ [6, 7, 8, 9, 10, 11, 12, 13, 22, 23, 24, 25, 26, 27, 28, 29, 30, 31, 32, 33, 34, 35, 36, 37, 38] (by decide +kernel) (by decide +kernel)
set_option maxRecDepth 20000 in
theorem gX5_inletOf_X1_findInlet : GoodIn wsX5_inletOf (wsV RX5 139 RX1 yX1_findInlet wsX1_findInlet) := goodIn_app (goodIn_of _ (by decide +kernel)) ggX5_inletOf_X1_findInlet
theorem dX5_inletOf_0 : decode cX5_inletOf 0 = .ok (.aload_n 0, 1) := by decide +kernel
theorem dX5_inletOf_1 : decode cX5_inletOf 1 = .ok (.getfield 12, 3) := by decide +kernel
theorem dX5_inletOf_4 : decode cX5_inletOf 4 = .ok (.iload_n 1, 1) := by decide +kernel
theorem dX5_inletOf_5 : decode cX5_inletOf 5 = .ok (.invokevirtual 139, 3) := by decide +kernel
theorem dX5_inletOf_8 : decode cX5_inletOf 8 = .ok (.ireturn, 1) := by decide +kernel
set_option maxRecDepth 20000 in
theorem ggX5_outletOf_X1_findInlet : GoodIn wsX5_outletOf wsX1_findInlet := goodIn_r _ [7, 8, 9, 10, 11, 12, 13, 14, 24, 25, 26, 27, 28, 29, 30, 31, 32, 33, 34, 35, 36, 37, 38, 39, 40] (by decide +kernel) (by decide +kernel)
set_option maxRecDepth 20000 in
theorem gX5_outletOf_X1_findInlet : GoodIn wsX5_outletOf (wsV RX5 139 RX1 yX1_findInlet wsX1_findInlet) := goodIn_app (goodIn_of _ (by decide +kernel)) ggX5_outletOf_X1_findInlet
set_option maxRecDepth 20000 in
theorem ggX5_outletOf_X4_get : GoodIn wsX5_outletOf wsX4_get := goodIn_r _ [13, 14, 40] (by decide +kernel) (by decide +kernel)
set_option maxRecDepth 20000 in
theorem gX5_outletOf_X4_get : GoodIn wsX5_outletOf (wsV RX5 131 RX4 yX4_get wsX4_get) := goodIn_app (goodIn_of _ (by decide +kernel)) ggX5_outletOf_X4_get
theorem dX5_outletOf_0 : decode cX5_outletOf 0 = .ok (.aload_n 0, 1) := by decide +kernel
theorem dX5_outletOf_1 : decode cX5_outletOf 1 = .ok (.getfield 12, 3) := by decide +kernel
theorem dX5_outletOf_4 : decode cX5_outletOf 4 = .ok (.iload_n 1, 1) := by decide +kernel
theorem dX5_outletOf_5 : decode cX5_outletOf 5 = .ok (.invokevirtual 139, 3) := by decide +kernel
theorem dX5_outletOf_8 : decode cX5_outletOf 8 = .ok (.istore_n 2, 1) := by decide +kernel
theorem dX5_outletOf_9 : decode cX5_outletOf 9 = .ok (.iload_n 2, 1) := by decide +kernel
theorem dX5_outletOf_10 : decode cX5_outletOf 10 = .ok (.ifCond .ge 7, 3) := by decide +kernel
theorem dX5_outletOf_13 : decode cX5_outletOf 13 = .ok (.iconst (-1), 1) := by decide +kernel
theorem dX5_outletOf_14 : decode cX5_outletOf 14 = .ok (.goto 14, 3) := by decide +kernel
theorem dX5_outletOf_17 : decode cX5_outletOf 17 = .ok (.aload_n 0, 1) := by decide +kernel
theorem dX5_outletOf_18 : decode cX5_outletOf 18 = .ok (.getfield 12, 3) := by decide +kernel
theorem dX5_outletOf_21 : decode cX5_outletOf 21 = .ok (.getfield 142, 3) := by decide +kernel
theorem dX5_outletOf_24 : decode cX5_outletOf 24 = .ok (.iload_n 2, 1) := by decide +kernel
theorem dX5_outletOf_25 : decode cX5_outletOf 25 = .ok (.invokevirtual 131, 3) := by decide +kernel
theorem dX5_outletOf_28 : decode cX5_outletOf 28 = .ok (.ireturn, 1) := by decide +kernel
set_option maxRecDepth 20000 in
theorem ggX5_middleOf_X1_findInlet : GoodIn wsX5_middleOf wsX1_findInlet := goodIn_r _ [7, 8, 9, 10, 11, 12, 13, 14, 24, 25, 26, 27, 28, 29, 30, 31, 32, 33, 34, 35, 36, 37, 38, 39, 40] (by decide +kernel) (by decide +kernel)
set_option maxRecDepth 20000 in
theorem gX5_middleOf_X1_findInlet : GoodIn wsX5_middleOf (wsV RX5 139 RX1 yX1_findInlet wsX1_findInlet) := goodIn_app (goodIn_of _ (by decide +kernel)) ggX5_middleOf_X1_findInlet
set_option maxRecDepth 20000 in
theorem ggX5_middleOf_X4_get : GoodIn wsX5_middleOf wsX4_get := goodIn_r _ [13, 14, 40] (by decide +kernel) (by decide +kernel)
set_option maxRecDepth 20000 in
theorem gX5_middleOf_X4_get : GoodIn wsX5_middleOf (wsV RX5 131 RX4 yX4_get wsX4_get) := goodIn_app (goodIn_of _ (by decide +kernel)) ggX5_middleOf_X4_get
theorem dX5_middleOf_0 : decode cX5_middleOf 0 = .ok (.aload_n 0, 1) := by decide +kernel
theorem dX5_middleOf_1 : decode cX5_middleOf 1 = .ok (.getfield 12, 3) := by decide +kernel
theorem dX5_middleOf_4 : decode cX5_middleOf 4 = .ok (.iload_n 1, 1) := by decide +kernel
theorem dX5_middleOf_5 : decode cX5_middleOf 5 = .ok (.invokevirtual 139, 3) := by decide +kernel
theorem dX5_middleOf_8 : decode cX5_middleOf 8 = .ok (.istore_n 2, 1) := by decide +kernel
theorem dX5_middleOf_9 : decode cX5_middleOf 9 = .ok (.iload_n 2, 1) := by decide +kernel
theorem dX5_middleOf_10 : decode cX5_middleOf 10 = .ok (.ifCond .ge 7, 3) := by decide +kernel
theorem dX5_middleOf_13 : decode cX5_middleOf 13 = .ok (.iconst (-1), 1) := by decide +kernel
theorem dX5_middleOf_14 : decode cX5_middleOf 14 = .ok (.goto 14, 3) := by decide +kernel
theorem dX5_middleOf_17 : decode cX5_middleOf 17 = .ok (.aload_n 0, 1) := by decide +kernel
theorem dX5_middleOf_18 : decode cX5_middleOf 18 = .ok (.getfield 12, 3) := by decide +kernel
theorem dX5_middleOf_21 : decode cX5_middleOf 21 = .ok (.getfield 145, 3) := by decide +kernel
theorem dX5_middleOf_24 : decode cX5_middleOf 24 = .ok (.iload_n 2, 1) := by decide +kernel
theorem dX5_middleOf_25 : decode cX5_middleOf 25 = .ok (.invokevirtual 131, 3) := by decide +kernel
theorem dX5_middleOf_28 : decode cX5_middleOf 28 = .ok (.ireturn, 1) := by decide +kernel
set_option maxRecDepth 20000 in
theorem ggX5_onFirstLink_X1_isBoard : GoodIn wsX5_onFirstLink wsX1_isBoard := goodIn_r _ [8, 9, 33, 34, 35, 36, 37, 38, 39, 40, 41, 42, 43, 44, 45, 46, 47, 48] (by decide +kernel) (by decide +kernel)
set_option maxRecDepth 20000 in
theorem gX5_onFirstLink_X1_isBoard : GoodIn wsX5_onFirstLink (wsV RX5 148 RX1 yX1_isBoard wsX1_isBoard) := goodIn_app (goodIn_of _ (by decide +kernel)) ggX5_onFirstLink_X1_isBoard
set_option maxRecDepth 20000 in
theorem ggX5_onFirstLink_X1_isMiddle : GoodIn wsX5_onFirstLink wsX1_isMiddle := goodIn_r _ [13, 14, 33, 34, 35, 36, 37, 38, 39, 40, 41, 42, 43, 44, 45, 46, 47, 48] (by decide +kernel) (by decide +kernel)
set_option maxRecDepth 20000 in
theorem gX5_onFirstLink_X1_isMiddle : GoodIn wsX5_onFirstLink (wsV RX5 151 RX1 yX1_isMiddle wsX1_isMiddle) := goodIn_app (goodIn_of _ (by decide +kernel)) ggX5_onFirstLink_X1_isMiddle
set_option maxRecDepth 20000 in
theorem ggX5_onFirstLink_X5_link : GoodIn wsX5_onFirstLink wsX5_link := goodIn_r _ [18] (by decide +kernel) (by decide +kernel)
set_option maxRecDepth 20000 in
theorem gX5_onFirstLink_X5_link : GoodIn wsX5_onFirstLink (va_wsS RX5 157 yX5_link wsX5_link) := goodIn_app (goodIn_of _ (by decide +kernel)) ggX5_onFirstLink_X5_link
set_option maxRecDepth 20000 in
theorem ggX5_onFirstLink_X4_get : GoodIn wsX5_onFirstLink wsX4_get := goodIn_r _ [23, 24, 49] (by decide +kernel) (by decide +kernel)
set_option maxRecDepth 20000 in
theorem gX5_onFirstLink_X4_get : GoodIn wsX5_onFirstLink (wsV RX5 131 RX4 yX4_get wsX4_get) := goodIn_app (goodIn_of _ (by decide +kernel)) ggX5_onFirstLink_X4_get
theorem dX5_onFirstLink_0 : decode cX5_onFirstLink 0 = .ok (.aload_n 0, 1) := by decide +kernel
theorem dX5_onFirstLink_1 : decode cX5_onFirstLink 1 = .ok (.getfield 12, 3) := by decide +kernel
theorem dX5_onFirstLink_4 : decode cX5_onFirstLink 4 = .ok (.iload_n 1, 1) := by decide +kernel
theorem dX5_onFirstLink_5 : decode cX5_onFirstLink 5 = .ok (.invokevirtual 148, 3) := by decide +kernel
theorem dX5_onFirstLink_8 : decode cX5_onFirstLink 8 = .ok (.ifCond .eq 14, 3) := by decide +kernel
theorem dX5_onFirstLink_11 : decode cX5_onFirstLink 11 = .ok (.aload_n 0, 1) := by decide +kernel
theorem dX5_onFirstLink_12 : decode cX5_onFirstLink 12 = .ok (.getfield 12, 3) := by decide +kernel
theorem dX5_onFirstLink_15 : decode cX5_onFirstLink 15 = .ok (.iload_n 2, 1) := by decide +kernel
theorem dX5_onFirstLink_16 : decode cX5_onFirstLink 16 = .ok (.invokevirtual 151, 3) := by decide +kernel
theorem dX5_onFirstLink_19 : decode cX5_onFirstLink 19 = .ok (.ifCond .ne 5, 3) := by decide +kernel
theorem dX5_onFirstLink_22 : decode cX5_onFirstLink 22 = .ok (.iconst (-1), 1) := by decide +kernel
theorem dX5_onFirstLink_23 : decode cX5_onFirstLink 23 = .ok (.ireturn, 1) := by decide +kernel
theorem dX5_onFirstLink_24 : decode cX5_onFirstLink 24 = .ok (.aload_n 0, 1) := by decide +kernel
theorem dX5_onFirstLink_25 : decode cX5_onFirstLink 25 = .ok (.getfield 12, 3) := by decide +kernel
theorem dX5_onFirstLink_28 : decode cX5_onFirstLink 28 = .ok (.getfield 127, 3) := by decide +kernel
theorem dX5_onFirstLink_31 : decode cX5_onFirstLink 31 = .ok (.aload_n 0, 1) := by decide +kernel
theorem dX5_onFirstLink_32 : decode cX5_onFirstLink 32 = .ok (.getfield 12, 3) := by decide +kernel
theorem dX5_onFirstLink_35 : decode cX5_onFirstLink 35 = .ok (.getfield 154, 3) := by decide +kernel
theorem dX5_onFirstLink_38 : decode cX5_onFirstLink 38 = .ok (.iload_n 1, 1) := by decide +kernel
theorem dX5_onFirstLink_39 : decode cX5_onFirstLink 39 = .ok (.iload_n 2, 1) := by decide +kernel
theorem dX5_onFirstLink_40 : decode cX5_onFirstLink 40 = .ok (.invokestatic 157, 3) := by decide +kernel
theorem dX5_onFirstLink_43 : decode cX5_onFirstLink 43 = .ok (.invokevirtual 131, 3) := by decide +kernel
theorem dX5_onFirstLink_46 : decode cX5_onFirstLink 46 = .ok (.invokevirtual 131, 3) := by decide +kernel
theorem dX5_onFirstLink_49 : decode cX5_onFirstLink 49 = .ok (.ireturn, 1) := by decide +kernel
set_option maxRecDepth 20000 in
theorem ggX5_onLastLink_X1_isMiddle : GoodIn wsX5_onLastLink wsX1_isMiddle := goodIn_r _ [8, 9, 33, 34, 35, 36, 37, 38, 39, 40, 41, 42, 43, 44, 45, 46, 47, 48] (by decide +kernel) (by decide +kernel)
set_option maxRecDepth 20000 in
theorem gX5_onLastLink_X1_isMiddle : GoodIn wsX5_onLastLink (wsV RX5 151 RX1 yX1_isMiddle wsX1_isMiddle) := goodIn_app (goodIn_of _ (by decide +kernel)) ggX5_onLastLink_X1_isMiddle
set_option maxRecDepth 20000 in
theorem ggX5_onLastLink_X1_isBoard : GoodIn wsX5_onLastLink wsX1_isBoard := goodIn_r _ [13, 14, 33, 34, 35, 36, 37, 38, 39, 40, 41, 42, 43, 44, 45, 46, 47, 48] (by decide +kernel) (by decide +kernel)
set_option maxRecDepth 20000 in
theorem gX5_onLastLink_X1_isBoard : GoodIn wsX5_onLastLink (wsV RX5 148 RX1 yX1_isBoard wsX1_isBoard) := goodIn_app (goodIn_of _ (by decide +kernel)) ggX5_onLastLink_X1_isBoard
set_option maxRecDepth 20000 in
theorem ggX5_onLastLink_X5_link : GoodIn wsX5_onLastLink wsX5_link := goodIn_r _ [18] (by decide +kernel) (by decide +kernel)
set_option maxRecDepth 20000 in
theorem gX5_onLastLink_X5_link : GoodIn wsX5_onLastLink (va_wsS RX5 157 yX5_link wsX5_link) := goodIn_app (goodIn_of _ (by decide +kernel)) ggX5_onLastLink_X5_link
set_option maxRecDepth 20000 in
theorem ggX5_onLastLink_X4_get : GoodIn wsX5_onLastLink wsX4_get := goodIn_r _ [23, 24, 49] (by decide +kernel) (by decide +kernel)
set_option maxRecDepth 20000 in
theorem gX5_onLastLink_X4_get : GoodIn wsX5_onLastLink (wsV RX5 131 RX4 yX4_get wsX4_get) := goodIn_app (goodIn_of _ (by decide +kernel)) ggX5_onLastLink_X4_get
theorem dX5_onLastLink_0 : decode cX5_onLastLink 0 = .ok (.aload_n 0, 1) := by decide +kernel
theorem dX5_onLastLink_1 : decode cX5_onLastLink 1 = .ok (.getfield 12, 3) := by decide +kernel
theorem dX5_onLastLink_4 : decode cX5_onLastLink 4 = .ok (.iload_n 1, 1) := by decide +kernel
theorem dX5_onLastLink_5 : decode cX5_onLastLink 5 = .ok (.invokevirtual 151, 3) := by decide +kernel
theorem dX5_onLastLink_8 : decode cX5_onLastLink 8 = .ok (.ifCond .eq 14, 3) := by decide +kernel
theorem dX5_onLastLink_11 : decode cX5_onLastLink 11 = .ok (.aload_n 0, 1) := by decide +kernel
theorem dX5_onLastLink_12 : decode cX5_onLastLink 12 = .ok (.getfield 12, 3) := by decide +kernel
theorem dX5_onLastLink_15 : decode cX5_onLastLink 15 = .ok (.iload_n 2, 1) := by decide +kernel
theorem dX5_onLastLink_16 : decode cX5_onLastLink 16 = .ok (.invokevirtual 148, 3) := by decide +kernel
theorem dX5_onLastLink_19 : decode cX5_onLastLink 19 = .ok (.ifCond .ne 5, 3) := by decide +kernel
theorem dX5_onLastLink_22 : decode cX5_onLastLink 22 = .ok (.iconst (-1), 1) := by decide +kernel
theorem dX5_onLastLink_23 : decode cX5_onLastLink 23 = .ok (.ireturn, 1) := by decide +kernel
theorem dX5_onLastLink_24 : decode cX5_onLastLink 24 = .ok (.aload_n 0, 1) := by decide +kernel
theorem dX5_onLastLink_25 : decode cX5_onLastLink 25 = .ok (.getfield 12, 3) := by decide +kernel
theorem dX5_onLastLink_28 : decode cX5_onLastLink 28 = .ok (.getfield 127, 3) := by decide +kernel
theorem dX5_onLastLink_31 : decode cX5_onLastLink 31 = .ok (.aload_n 0, 1) := by decide +kernel
theorem dX5_onLastLink_32 : decode cX5_onLastLink 32 = .ok (.getfield 12, 3) := by decide +kernel
theorem dX5_onLastLink_35 : decode cX5_onLastLink 35 = .ok (.getfield 161, 3) := by decide +kernel
theorem dX5_onLastLink_38 : decode cX5_onLastLink 38 = .ok (.iload_n 2, 1) := by decide +kernel
theorem dX5_onLastLink_39 : decode cX5_onLastLink 39 = .ok (.iload_n 1, 1) := by decide +kernel
theorem dX5_onLastLink_40 : decode cX5_onLastLink 40 = .ok (.invokestatic 157, 3) := by decide +kernel
theorem dX5_onLastLink_43 : decode cX5_onLastLink 43 = .ok (.invokevirtual 131, 3) := by decide +kernel
theorem dX5_onLastLink_46 : decode cX5_onLastLink 46 = .ok (.invokevirtual 131, 3) := by decide +kernel
theorem dX5_onLastLink_49 : decode cX5_onLastLink 49 = .ok (.ireturn, 1) := by decide +kernel
set_option maxRecDepth 20000 in
theorem ggX5_load_X1_isMiddle : GoodIn wsX5_load wsX1_isMiddle := goodIn_r _ [6, 7, 31, 32, 33, 34, 35, 36, 37, 38, 39, 40, 41, 42, 43, 44, 45, 46] (by decide +kernel) (by decide +kernel)
set_option maxRecDepth 20000 in
theorem gX5_load_X1_isMiddle : GoodIn wsX5_load (wsV RX5 151 RX1 yX1_isMiddle wsX1_isMiddle) := goodIn_app (goodIn_of _ (by decide +kernel)) ggX5_load_X1_isMiddle
set_option maxRecDepth 20000 in
theorem ggX5_load_X1_loadOf : GoodIn wsX5_load wsX1_loadOf := goodIn_r _ [11, 12, 13, 14, 15, 16, 17, 18, 19, 20, 21, 22, 31, 32, 33, 34, 35, 36, 37, 38, 39, 40, 41, 42, 43, 44, 45, 46, 47] (by decide +kernel) (by decide +kernel)
set_option maxRecDepth 20000 in
theorem gX5_load_X1_loadOf : GoodIn wsX5_load (wsV RX5 164 RX1 yX1_loadOf wsX1_loadOf) := goodIn_app (goodIn_of _ (by decide +kernel)) ggX5_load_X1_loadOf
theorem dX5_load_0 : decode cX5_load 0 = .ok (.aload_n 0, 1) := by decide +kernel
theorem dX5_load_1 : decode cX5_load 1 = .ok (.getfield 12, 3) := by decide +kernel
theorem dX5_load_4 : decode cX5_load 4 = .ok (.iload_n 1, 1) := by decide +kernel
theorem dX5_load_5 : decode cX5_load 5 = .ok (.invokevirtual 151, 3) := by decide +kernel
theorem dX5_load_8 : decode cX5_load 8 = .ok (.ifCond .eq 14, 3) := by decide +kernel
theorem dX5_load_11 : decode cX5_load 11 = .ok (.aload_n 0, 1) := by decide +kernel
theorem dX5_load_12 : decode cX5_load 12 = .ok (.getfield 12, 3) := by decide +kernel
theorem dX5_load_15 : decode cX5_load 15 = .ok (.iload_n 1, 1) := by decide +kernel
theorem dX5_load_16 : decode cX5_load 16 = .ok (.invokevirtual 164, 3) := by decide +kernel
theorem dX5_load_19 : decode cX5_load 19 = .ok (.goto 4, 3) := by decide +kernel
theorem dX5_load_22 : decode cX5_load 22 = .ok (.iconst (-1), 1) := by decide +kernel
theorem dX5_load_23 : decode cX5_load 23 = .ok (.ireturn, 1) := by decide +kernel
set_option maxRecDepth 20000 in
theorem ggX5_freeForFirst_X1_isBoard : GoodIn wsX5_freeForFirst wsX1_isBoard := goodIn_r _ [7, 8, 32, 33, 34, 35, 36, 37, 38, 39, 40, 41, 42, 43, 44, 45, 46, 47] (by decide +kernel) (by decide +kernel)
set_option maxRecDepth 20000 in
theorem gX5_freeForFirst_X1_isBoard : GoodIn wsX5_freeForFirst (wsV RX5 148 RX1 yX1_isBoard wsX1_isBoard) := goodIn_app (goodIn_of _ (by decide +kernel)) ggX5_freeForFirst_X1_isBoard
set_option maxRecDepth 20000 in
theorem ggX5_freeForFirst_X1_freeOnLinks : GoodIn wsX5_freeForFirst wsX1_freeOnLinks := goodIn_r _ [12, 13, 14, 15, 16, 17, 18, 19, 20, 21, 22, 23, 32, 33, 34, 35, 36, 37, 38, 39, 40, 41, 42, 43, 44, 45, 46, 47, 48] (by decide +kernel) (by decide +kernel)
set_option maxRecDepth 20000 in
theorem gX5_freeForFirst_X1_freeOnLinks : GoodIn wsX5_freeForFirst (wsV RX5 167 RX1 yX1_freeOnLinks wsX1_freeOnLinks) := goodIn_app (goodIn_of _ (by decide +kernel)) ggX5_freeForFirst_X1_freeOnLinks
theorem dX5_freeForFirst_0 : decode cX5_freeForFirst 0 = .ok (.aload_n 0, 1) := by decide +kernel
theorem dX5_freeForFirst_1 : decode cX5_freeForFirst 1 = .ok (.getfield 12, 3) := by decide +kernel
theorem dX5_freeForFirst_4 : decode cX5_freeForFirst 4 = .ok (.iload_n 1, 1) := by decide +kernel
theorem dX5_freeForFirst_5 : decode cX5_freeForFirst 5 = .ok (.invokevirtual 148, 3) := by decide +kernel
theorem dX5_freeForFirst_8 : decode cX5_freeForFirst 8 = .ok (.ifCond .eq 21, 3) := by decide +kernel
theorem dX5_freeForFirst_11 : decode cX5_freeForFirst 11 = .ok (.aload_n 0, 1) := by decide +kernel
theorem dX5_freeForFirst_12 : decode cX5_freeForFirst 12 = .ok (.getfield 12, 3) := by decide +kernel
theorem dX5_freeForFirst_15 : decode cX5_freeForFirst 15 = .ok (.aload_n 0, 1) := by decide +kernel
theorem dX5_freeForFirst_16 : decode cX5_freeForFirst 16 = .ok (.getfield 12, 3) := by decide +kernel
theorem dX5_freeForFirst_19 : decode cX5_freeForFirst 19 = .ok (.getfield 154, 3) := by decide +kernel
theorem dX5_freeForFirst_22 : decode cX5_freeForFirst 22 = .ok (.iload_n 1, 1) := by decide +kernel
theorem dX5_freeForFirst_23 : decode cX5_freeForFirst 23 = .ok (.invokevirtual 167, 3) := by decide +kernel
theorem dX5_freeForFirst_26 : decode cX5_freeForFirst 26 = .ok (.goto 4, 3) := by decide +kernel
theorem dX5_freeForFirst_29 : decode cX5_freeForFirst 29 = .ok (.iconst (-1), 1) := by decide +kernel
theorem dX5_freeForFirst_30 : decode cX5_freeForFirst 30 = .ok (.ireturn, 1) := by decide +kernel
set_option maxRecDepth 20000 in
theorem ggX5_freeForLast_X1_isBoard : GoodIn wsX5_freeForLast wsX1_isBoard := goodIn_r _ [7, 8, 32, 33, 34, 35, 36, 37, 38, 39, 40, 41, 42, 43, 44, 45, 46, 47] (by decide +kernel) (by decide +kernel)
set_option maxRecDepth 20000 in
theorem gX5_freeForLast_X1_isBoard : GoodIn wsX5_freeForLast (wsV RX5 148 RX1 yX1_isBoard wsX1_isBoard) := goodIn_app (goodIn_of _ (by decide +kernel)) ggX5_freeForLast_X1_isBoard
set_option maxRecDepth 20000 in
theorem ggX5_freeForLast_X1_freeOnLinks : GoodIn wsX5_freeForLast wsX1_freeOnLinks := goodIn_r _ [12, 13, 14, 15, 16, 17, 18, 19, 20, 21, 22, 23, 32, 33, 34, 35, 36, 37, 38, 39, 40, 41, 42, 43, 44, 45, 46, 47, 48] (by decide +kernel) (by decide +kernel)
set_option maxRecDepth 20000 in
theorem gX5_freeForLast_X1_freeOnLinks : GoodIn wsX5_freeForLast (wsV RX5 167 RX1 yX1_freeOnLinks wsX1_freeOnLinks) := goodIn_app (goodIn_of _ (by decide +kernel)) ggX5_freeForLast_X1_freeOnLinks
theorem dX5_freeForLast_0 : decode cX5_freeForLast 0 = .ok (.aload_n 0, 1) := by decide +kernel
theorem dX5_freeForLast_1 : decode cX5_freeForLast 1 = .ok (.getfield 12, 3) := by decide +kernel
theorem dX5_freeForLast_4 : decode cX5_freeForLast 4 = .ok (.iload_n 1, 1) := by decide +kernel
theorem dX5_freeForLast_5 : decode cX5_freeForLast 5 = .ok (.invokevirtual 148, 3) := by decide +kernel
theorem dX5_freeForLast_8 : decode cX5_freeForLast 8 = .ok (.ifCond .eq 21, 3) := by decide +kernel
theorem dX5_freeForLast_11 : decode cX5_freeForLast 11 = .ok (.aload_n 0, 1) := by decide +kernel
theorem dX5_freeForLast_12 : decode cX5_freeForLast 12 = .ok (.getfield 12, 3) := by decide +kernel
theorem dX5_freeForLast_15 : decode cX5_freeForLast 15 = .ok (.aload_n 0, 1) := by decide +kernel
theorem dX5_freeForLast_16 : decode cX5_freeForLast 16 = .ok (.getfield 12, 3) := by decide +kernel
theorem dX5_freeForLast_19 : decode cX5_freeForLast 19 = .ok (.getfield 161, 3) := by decide +kernel
theorem dX5_freeForLast_22 : decode cX5_freeForLast 22 = .ok (.iload_n 1, 1) := by decide +kernel
theorem dX5_freeForLast_23 : decode cX5_freeForLast 23 = .ok (.invokevirtual 167, 3) := by decide +kernel
theorem dX5_freeForLast_26 : decode cX5_freeForLast 26 = .ok (.goto 4, 3) := by decide +kernel
theorem dX5_freeForLast_29 : decode cX5_freeForLast 29 = .ok (.iconst (-1), 1) := by decide +kernel
theorem dX5_freeForLast_30 : decode cX5_freeForLast 30 = .ok (.ireturn, 1) := by decide +kernel
theorem dX5_inService_0 : decode cX5_inService 0 = .ok (.aload_n 0, 1) := by decide +kernel
theorem dX5_inService_1 : decode cX5_inService 1 = .ok (.getfield 12, 3) := by decide +kernel
theorem dX5_inService_4 : decode cX5_inService 4 = .ok (.getfield 171, 3) := by decide +kernel
theorem dX5_inService_7 : decode cX5_inService 7 = .ok (.ireturn, 1) := by decide +kernel
set_option maxRecDepth 20000 in
theorem ggX5_total_X1_countCalls : GoodIn wsX5_total wsX1_countCalls := goodIn_r _ [19, 20, 21, 22, 23, 24, 25, 26, 35, 36, 37, 38, 39, 40, 41, 42, 43, 44, 45, 46, 47, 48, 49, 50, 60] (by decide +kernel) (by decide +kernel)
set_option maxRecDepth 20000 in
theorem gX5_total_X1_countCalls : GoodIn wsX5_total (wsV RX5 121 RX1 yX1_countCalls wsX1_countCalls) := goodIn_app (goodIn_of _ (by decide +kernel)) ggX5_total_X1_countCalls
theorem dX5_total_0 : decode cX5_total 0 = .ok (.iload_n 1, 1) := by decide +kernel
theorem dX5_total_1 : decode cX5_total 1 = .ok (.tableswitch 159 0 11 #[63, 71, 79, 87, 95, 103, 111, 119, 127, 135, 143, 151], 63) := by decide +kernel
theorem dX5_total_64 : decode cX5_total 64 = .ok (.aload_n 0, 1) := by decide +kernel
theorem dX5_total_65 : decode cX5_total 65 = .ok (.getfield 12, 3) := by decide +kernel
theorem dX5_total_68 : decode cX5_total 68 = .ok (.getfield 174, 3) := by decide +kernel
theorem dX5_total_71 : decode cX5_total 71 = .ok (.ireturn, 1) := by decide +kernel
theorem dX5_total_72 : decode cX5_total 72 = .ok (.aload_n 0, 1) := by decide +kernel
theorem dX5_total_73 : decode cX5_total 73 = .ok (.getfield 12, 3) := by decide +kernel
theorem dX5_total_76 : decode cX5_total 76 = .ok (.getfield 177, 3) := by decide +kernel
theorem dX5_total_79 : decode cX5_total 79 = .ok (.ireturn, 1) := by decide +kernel
theorem dX5_total_80 : decode cX5_total 80 = .ok (.aload_n 0, 1) := by decide +kernel
theorem dX5_total_81 : decode cX5_total 81 = .ok (.getfield 12, 3) := by decide +kernel
theorem dX5_total_84 : decode cX5_total 84 = .ok (.getfield 180, 3) := by decide +kernel
theorem dX5_total_87 : decode cX5_total 87 = .ok (.ireturn, 1) := by decide +kernel
theorem dX5_total_88 : decode cX5_total 88 = .ok (.aload_n 0, 1) := by decide +kernel
theorem dX5_total_89 : decode cX5_total 89 = .ok (.getfield 12, 3) := by decide +kernel
theorem dX5_total_92 : decode cX5_total 92 = .ok (.getfield 62, 3) := by decide +kernel
theorem dX5_total_95 : decode cX5_total 95 = .ok (.ireturn, 1) := by decide +kernel
theorem dX5_total_96 : decode cX5_total 96 = .ok (.aload_n 0, 1) := by decide +kernel
theorem dX5_total_97 : decode cX5_total 97 = .ok (.getfield 12, 3) := by decide +kernel
theorem dX5_total_100 : decode cX5_total 100 = .ok (.getfield 66, 3) := by decide +kernel
theorem dX5_total_103 : decode cX5_total 103 = .ok (.ireturn, 1) := by decide +kernel
theorem dX5_total_104 : decode cX5_total 104 = .ok (.aload_n 0, 1) := by decide +kernel
theorem dX5_total_105 : decode cX5_total 105 = .ok (.getfield 12, 3) := by decide +kernel
theorem dX5_total_108 : decode cX5_total 108 = .ok (.invokevirtual 121, 3) := by decide +kernel
theorem dX5_total_111 : decode cX5_total 111 = .ok (.ireturn, 1) := by decide +kernel
theorem dX5_total_112 : decode cX5_total 112 = .ok (.aload_n 0, 1) := by decide +kernel
theorem dX5_total_113 : decode cX5_total 113 = .ok (.getfield 12, 3) := by decide +kernel
theorem dX5_total_116 : decode cX5_total 116 = .ok (.getfield 183, 3) := by decide +kernel
theorem dX5_total_119 : decode cX5_total 119 = .ok (.ireturn, 1) := by decide +kernel
theorem dX5_total_120 : decode cX5_total 120 = .ok (.aload_n 0, 1) := by decide +kernel
theorem dX5_total_121 : decode cX5_total 121 = .ok (.getfield 12, 3) := by decide +kernel
theorem dX5_total_124 : decode cX5_total 124 = .ok (.getfield 186, 3) := by decide +kernel
theorem dX5_total_127 : decode cX5_total 127 = .ok (.ireturn, 1) := by decide +kernel
theorem dX5_total_128 : decode cX5_total 128 = .ok (.aload_n 0, 1) := by decide +kernel
theorem dX5_total_129 : decode cX5_total 129 = .ok (.getfield 12, 3) := by decide +kernel
theorem dX5_total_132 : decode cX5_total 132 = .ok (.getfield 189, 3) := by decide +kernel
theorem dX5_total_135 : decode cX5_total 135 = .ok (.ireturn, 1) := by decide +kernel
theorem dX5_total_136 : decode cX5_total 136 = .ok (.aload_n 0, 1) := by decide +kernel
theorem dX5_total_137 : decode cX5_total 137 = .ok (.getfield 12, 3) := by decide +kernel
theorem dX5_total_140 : decode cX5_total 140 = .ok (.getfield 192, 3) := by decide +kernel
theorem dX5_total_143 : decode cX5_total 143 = .ok (.ireturn, 1) := by decide +kernel
theorem dX5_total_144 : decode cX5_total 144 = .ok (.aload_n 0, 1) := by decide +kernel
theorem dX5_total_145 : decode cX5_total 145 = .ok (.getfield 35, 3) := by decide +kernel
theorem dX5_total_148 : decode cX5_total 148 = .ok (.getfield 195, 3) := by decide +kernel
theorem dX5_total_151 : decode cX5_total 151 = .ok (.ireturn, 1) := by decide +kernel
theorem dX5_total_152 : decode cX5_total 152 = .ok (.aload_n 0, 1) := by decide +kernel
theorem dX5_total_153 : decode cX5_total 153 = .ok (.getfield 42, 3) := by decide +kernel
theorem dX5_total_156 : decode cX5_total 156 = .ok (.getfield 97, 3) := by decide +kernel
theorem dX5_total_159 : decode cX5_total 159 = .ok (.ireturn, 1) := by decide +kernel
theorem dX5_total_160 : decode cX5_total 160 = .ok (.bipush (-2), 2) := by decide +kernel
theorem dX5_total_162 : decode cX5_total 162 = .ok (.ireturn, 1) := by decide +kernel
set_option maxRecDepth 20000 in
theorem ggX5_wouldMove_X3_tryCall : GoodIn wsX5_wouldMove wsX3_tryCall := goodIn_r _ [8, 9, 10, 11, 12, 13, 14, 15, 16, 17, 18, 19, 20, 21, 22, 23, 24, 25, 26, 27, 28, 29, 30, 31, 32, 33, 34, 7, 35, 36, 37, 38, 39, 40, 41, 42, 43, 44, 45, 46, 47, 48, 49, 50, 51, 52, 53, 54, 55, 56, 57, 58, 59, 60, 61, 62, 63, 64, 65, 66, 67, 68, 69, 70, 71, 72, 73, 74, 75, 76, 77, 78, 79, 80, 81, 95, 96, 97, 98, 99, 100, 101, 102, 103, 104, 105, 106, 107, 108, 109, 110, 111, 90, 91, 92, 93, 94] (by decide +kernel) (by decide +kernel)
set_option maxRecDepth 20000 in
theorem gX5_wouldMove_X3_tryCall : GoodIn wsX5_wouldMove (wsV RX5 198 RX3 yX3_tryCall wsX3_tryCall) := goodIn_app (goodIn_of _ (by decide +kernel)) ggX5_wouldMove_X3_tryCall
theorem dX5_wouldMove_0 : decode cX5_wouldMove 0 = .ok (.aload_n 0, 1) := by decide +kernel
theorem dX5_wouldMove_1 : decode cX5_wouldMove 1 = .ok (.getfield 28, 3) := by decide +kernel
theorem dX5_wouldMove_4 : decode cX5_wouldMove 4 = .ok (.aload_n 0, 1) := by decide +kernel
theorem dX5_wouldMove_5 : decode cX5_wouldMove 5 = .ok (.getfield 12, 3) := by decide +kernel
theorem dX5_wouldMove_8 : decode cX5_wouldMove 8 = .ok (.iload_n 1, 1) := by decide +kernel
theorem dX5_wouldMove_9 : decode cX5_wouldMove 9 = .ok (.iload_n 2, 1) := by decide +kernel
theorem dX5_wouldMove_10 : decode cX5_wouldMove 10 = .ok (.invokevirtual 198, 3) := by decide +kernel
theorem dX5_wouldMove_13 : decode cX5_wouldMove 13 = .ok (.istore_n 3, 1) := by decide +kernel
theorem dX5_wouldMove_14 : decode cX5_wouldMove 14 = .ok (.iload_n 3, 1) := by decide +kernel
theorem dX5_wouldMove_15 : decode cX5_wouldMove 15 = .ok (.ifCond .ge 7, 3) := by decide +kernel
theorem dX5_wouldMove_18 : decode cX5_wouldMove 18 = .ok (.iload_n 3, 1) := by decide +kernel
theorem dX5_wouldMove_19 : decode cX5_wouldMove 19 = .ok (.goto 10, 3) := by decide +kernel
theorem dX5_wouldMove_22 : decode cX5_wouldMove 22 = .ok (.aload_n 0, 1) := by decide +kernel
theorem dX5_wouldMove_23 : decode cX5_wouldMove 23 = .ok (.getfield 28, 3) := by decide +kernel
theorem dX5_wouldMove_26 : decode cX5_wouldMove 26 = .ok (.getfield 201, 3) := by decide +kernel
theorem dX5_wouldMove_29 : decode cX5_wouldMove 29 = .ok (.ireturn, 1) := by decide +kernel
set_option maxRecDepth 20000 in
theorem ggX5_chainCall_X3_tryCall : GoodIn wsX5_chainCall wsX3_tryCall := goodIn_r _ [10, 11, 12, 13, 14, 15, 16, 17, 18, 19, 20, 21, 22, 23, 24, 25, 26, 27, 28, 29, 30, 31, 32, 33, 34, 35, 36, 9, 37, 38, 39, 40, 41, 42, 43, 44, 45, 46, 47, 48, 49, 50, 51, 52, 53, 54, 55, 56, 57, 58, 59, 60, 61, 62, 63, 64, 65, 66, 67, 68, 69, 70, 71, 72, 73, 74, 75, 76, 77, 78, 79, 80, 81, 82, 83, 98, 99, 100, 101, 102, 103, 104, 105, 106, 107, 108, 109, 110, 111, 112, 113, 114, 93, 94, 95, 96, 97] (by decide +kernel) (by decide +kernel)
set_option maxRecDepth 20000 in
theorem gX5_chainCall_X3_tryCall : GoodIn wsX5_chainCall (wsV RX5 198 RX3 yX3_tryCall wsX3_tryCall) := goodIn_app (goodIn_of _ (by decide +kernel)) ggX5_chainCall_X3_tryCall
set_option maxRecDepth 20000 in
theorem ggX5_chainCall_X4_get : GoodIn wsX5_chainCall wsX4_get := goodIn_r _ [27, 28, 114] (by decide +kernel) (by decide +kernel)
set_option maxRecDepth 20000 in
theorem gX5_chainCall_X4_get : GoodIn wsX5_chainCall (wsV RX5 131 RX4 yX4_get wsX4_get) := goodIn_app (goodIn_of _ (by decide +kernel)) ggX5_chainCall_X4_get
theorem dX5_chainCall_0 : decode cX5_chainCall 0 = .ok (.aload_n 0, 1) := by decide +kernel
theorem dX5_chainCall_1 : decode cX5_chainCall 1 = .ok (.getfield 28, 3) := by decide +kernel
theorem dX5_chainCall_4 : decode cX5_chainCall 4 = .ok (.aload_n 0, 1) := by decide +kernel
theorem dX5_chainCall_5 : decode cX5_chainCall 5 = .ok (.getfield 12, 3) := by decide +kernel
theorem dX5_chainCall_8 : decode cX5_chainCall 8 = .ok (.iload_n 1, 1) := by decide +kernel
theorem dX5_chainCall_9 : decode cX5_chainCall 9 = .ok (.iload_n 2, 1) := by decide +kernel
theorem dX5_chainCall_10 : decode cX5_chainCall 10 = .ok (.invokevirtual 198, 3) := by decide +kernel
theorem dX5_chainCall_13 : decode cX5_chainCall 13 = .ok (.istore 4, 2) := by decide +kernel
theorem dX5_chainCall_15 : decode cX5_chainCall 15 = .ok (.iload 4, 2) := by decide +kernel
theorem dX5_chainCall_17 : decode cX5_chainCall 17 = .ok (.ifCond .ge 6, 3) := by decide +kernel
theorem dX5_chainCall_20 : decode cX5_chainCall 20 = .ok (.iload 4, 2) := by decide +kernel
theorem dX5_chainCall_22 : decode cX5_chainCall 22 = .ok (.ireturn, 1) := by decide +kernel
theorem dX5_chainCall_23 : decode cX5_chainCall 23 = .ok (.iload_n 3, 1) := by decide +kernel
theorem dX5_chainCall_24 : decode cX5_chainCall 24 = .ok (.ifCond .ge 6, 3) := by decide +kernel
theorem dX5_chainCall_27 : decode cX5_chainCall 27 = .ok (.bipush (-2), 2) := by decide +kernel
theorem dX5_chainCall_29 : decode cX5_chainCall 29 = .ok (.ireturn, 1) := by decide +kernel
theorem dX5_chainCall_30 : decode cX5_chainCall 30 = .ok (.iload_n 3, 1) := by decide +kernel
theorem dX5_chainCall_31 : decode cX5_chainCall 31 = .ok (.aload_n 0, 1) := by decide +kernel
theorem dX5_chainCall_32 : decode cX5_chainCall 32 = .ok (.getfield 28, 3) := by decide +kernel
theorem dX5_chainCall_35 : decode cX5_chainCall 35 = .ok (.getfield 201, 3) := by decide +kernel
theorem dX5_chainCall_38 : decode cX5_chainCall 38 = .ok (.if_icmp .ge 27, 3) := by decide +kernel
theorem dX5_chainCall_41 : decode cX5_chainCall 41 = .ok (.aload_n 0, 1) := by decide +kernel
theorem dX5_chainCall_42 : decode cX5_chainCall 42 = .ok (.getfield 12, 3) := by decide +kernel
theorem dX5_chainCall_45 : decode cX5_chainCall 45 = .ok (.getfield 127, 3) := by decide +kernel
theorem dX5_chainCall_48 : decode cX5_chainCall 48 = .ok (.aload_n 0, 1) := by decide +kernel
theorem dX5_chainCall_49 : decode cX5_chainCall 49 = .ok (.getfield 28, 3) := by decide +kernel
theorem dX5_chainCall_52 : decode cX5_chainCall 52 = .ok (.getfield 204, 3) := by decide +kernel
theorem dX5_chainCall_55 : decode cX5_chainCall 55 = .ok (.iload_n 3, 1) := by decide +kernel
theorem dX5_chainCall_56 : decode cX5_chainCall 56 = .ok (.invokevirtual 131, 3) := by decide +kernel
theorem dX5_chainCall_59 : decode cX5_chainCall 59 = .ok (.invokevirtual 131, 3) := by decide +kernel
theorem dX5_chainCall_62 : decode cX5_chainCall 62 = .ok (.goto 5, 3) := by decide +kernel
theorem dX5_chainCall_65 : decode cX5_chainCall 65 = .ok (.bipush (-6), 2) := by decide +kernel
theorem dX5_chainCall_67 : decode cX5_chainCall 67 = .ok (.ireturn, 1) := by decide +kernel
set_option maxRecDepth 20000 in
theorem ggX5_reason_X1_isLine : GoodIn wsX5_reason wsX1_isLine := goodIn_r _ [8, 9, 10, 48, 49, 50, 51, 52, 53, 54, 55, 56, 57, 58, 59, 60, 61, 62, 63] (by decide +kernel) (by decide +kernel)
set_option maxRecDepth 20000 in
theorem gX5_reason_X1_isLine : GoodIn wsX5_reason (wsV RX5 124 RX1 yX1_isLine wsX1_isLine) := goodIn_app (goodIn_of _ (by decide +kernel)) ggX5_reason_X1_isLine
set_option maxRecDepth 20000 in
theorem ggX5_reason_X1_isInletBusy : GoodIn wsX5_reason wsX1_isInletBusy := goodIn_r _ [14, 15, 16, 17, 18, 19, 20, 21, 48, 49, 50, 51, 52, 53, 54, 55, 56, 57, 58, 59, 60, 61, 62, 63, 64] (by decide +kernel) (by decide +kernel)
set_option maxRecDepth 20000 in
theorem gX5_reason_X1_isInletBusy : GoodIn wsX5_reason (wsV RX5 207 RX1 yX1_isInletBusy wsX1_isInletBusy) := goodIn_app (goodIn_of _ (by decide +kernel)) ggX5_reason_X1_isInletBusy
set_option maxRecDepth 20000 in
theorem ggX5_reason_X1_isOutletBusy : GoodIn wsX5_reason wsX1_isOutletBusy := goodIn_r _ [25, 26, 16, 17, 18, 19, 20, 21, 48, 49, 50, 51, 52, 53, 54, 55, 56, 57, 58, 59, 60, 61, 62, 63, 64] (by decide +kernel) (by decide +kernel)
set_option maxRecDepth 20000 in
theorem gX5_reason_X1_isOutletBusy : GoodIn wsX5_reason (wsV RX5 210 RX1 yX1_isOutletBusy wsX1_isOutletBusy) := goodIn_app (goodIn_of _ (by decide +kernel)) ggX5_reason_X1_isOutletBusy
set_option maxRecDepth 20000 in
theorem ggX5_reason_X1_boardOf : GoodIn wsX5_reason wsX1_boardOf := goodIn_r _ [30, 10, 48, 49, 50, 51, 52, 53, 54, 55, 56, 57, 58, 59, 60, 61, 62, 63] (by decide +kernel) (by decide +kernel)
set_option maxRecDepth 20000 in
theorem gX5_reason_X1_boardOf : GoodIn wsX5_reason (wsV RX5 213 RX1 yX1_boardOf wsX1_boardOf) := goodIn_app (goodIn_of _ (by decide +kernel)) ggX5_reason_X1_boardOf
set_option maxRecDepth 20000 in
theorem ggX5_reason_X1_freeOnLinks : GoodIn wsX5_reason wsX1_freeOnLinks := goodIn_r _ [34, 35, 36, 37, 38, 39, 16, 17, 18, 19, 20, 21, 48, 49, 50, 51, 52, 53, 54, 55, 56, 57, 58, 59, 60, 61, 62, 63, 64] (by decide +kernel) (by decide +kernel)
set_option maxRecDepth 20000 in
theorem gX5_reason_X1_freeOnLinks : GoodIn wsX5_reason (wsV RX5 167 RX1 yX1_freeOnLinks wsX1_freeOnLinks) := goodIn_app (goodIn_of _ (by decide +kernel)) ggX5_reason_X1_freeOnLinks
theorem dX5_reason_0 : decode cX5_reason 0 = .ok (.aload_n 0, 1) := by decide +kernel
theorem dX5_reason_1 : decode cX5_reason 1 = .ok (.getfield 12, 3) := by decide +kernel
theorem dX5_reason_4 : decode cX5_reason 4 = .ok (.iload_n 1, 1) := by decide +kernel
theorem dX5_reason_5 : decode cX5_reason 5 = .ok (.invokevirtual 124, 3) := by decide +kernel
theorem dX5_reason_8 : decode cX5_reason 8 = .ok (.ifCond .eq 14, 3) := by decide +kernel
theorem dX5_reason_11 : decode cX5_reason 11 = .ok (.aload_n 0, 1) := by decide +kernel
theorem dX5_reason_12 : decode cX5_reason 12 = .ok (.getfield 12, 3) := by decide +kernel
theorem dX5_reason_15 : decode cX5_reason 15 = .ok (.iload_n 2, 1) := by decide +kernel
theorem dX5_reason_16 : decode cX5_reason 16 = .ok (.invokevirtual 124, 3) := by decide +kernel
theorem dX5_reason_19 : decode cX5_reason 19 = .ok (.ifCond .ne 5, 3) := by decide +kernel
theorem dX5_reason_22 : decode cX5_reason 22 = .ok (.iconst (-1), 1) := by decide +kernel
theorem dX5_reason_23 : decode cX5_reason 23 = .ok (.ireturn, 1) := by decide +kernel
theorem dX5_reason_24 : decode cX5_reason 24 = .ok (.aload_n 0, 1) := by decide +kernel
theorem dX5_reason_25 : decode cX5_reason 25 = .ok (.getfield 12, 3) := by decide +kernel
theorem dX5_reason_28 : decode cX5_reason 28 = .ok (.iload_n 1, 1) := by decide +kernel
theorem dX5_reason_29 : decode cX5_reason 29 = .ok (.invokevirtual 207, 3) := by decide +kernel
theorem dX5_reason_32 : decode cX5_reason 32 = .ok (.ifCond .eq 5, 3) := by decide +kernel
theorem dX5_reason_35 : decode cX5_reason 35 = .ok (.iconst 2, 1) := by decide +kernel
theorem dX5_reason_36 : decode cX5_reason 36 = .ok (.ireturn, 1) := by decide +kernel
theorem dX5_reason_37 : decode cX5_reason 37 = .ok (.aload_n 0, 1) := by decide +kernel
theorem dX5_reason_38 : decode cX5_reason 38 = .ok (.getfield 12, 3) := by decide +kernel
theorem dX5_reason_41 : decode cX5_reason 41 = .ok (.iload_n 2, 1) := by decide +kernel
theorem dX5_reason_42 : decode cX5_reason 42 = .ok (.invokevirtual 210, 3) := by decide +kernel
theorem dX5_reason_45 : decode cX5_reason 45 = .ok (.ifCond .eq 5, 3) := by decide +kernel
theorem dX5_reason_48 : decode cX5_reason 48 = .ok (.iconst 3, 1) := by decide +kernel
theorem dX5_reason_49 : decode cX5_reason 49 = .ok (.ireturn, 1) := by decide +kernel
theorem dX5_reason_50 : decode cX5_reason 50 = .ok (.aload_n 0, 1) := by decide +kernel
theorem dX5_reason_51 : decode cX5_reason 51 = .ok (.getfield 12, 3) := by decide +kernel
theorem dX5_reason_54 : decode cX5_reason 54 = .ok (.aload_n 0, 1) := by decide +kernel
theorem dX5_reason_55 : decode cX5_reason 55 = .ok (.getfield 12, 3) := by decide +kernel
theorem dX5_reason_58 : decode cX5_reason 58 = .ok (.getfield 154, 3) := by decide +kernel
theorem dX5_reason_61 : decode cX5_reason 61 = .ok (.aload_n 0, 1) := by decide +kernel
theorem dX5_reason_62 : decode cX5_reason 62 = .ok (.getfield 12, 3) := by decide +kernel
theorem dX5_reason_65 : decode cX5_reason 65 = .ok (.iload_n 1, 1) := by decide +kernel
theorem dX5_reason_66 : decode cX5_reason 66 = .ok (.invokevirtual 213, 3) := by decide +kernel
theorem dX5_reason_69 : decode cX5_reason 69 = .ok (.invokevirtual 167, 3) := by decide +kernel
theorem dX5_reason_72 : decode cX5_reason 72 = .ok (.istore_n 3, 1) := by decide +kernel
theorem dX5_reason_73 : decode cX5_reason 73 = .ok (.aload_n 0, 1) := by decide +kernel
theorem dX5_reason_74 : decode cX5_reason 74 = .ok (.getfield 12, 3) := by decide +kernel
theorem dX5_reason_77 : decode cX5_reason 77 = .ok (.aload_n 0, 1) := by decide +kernel
theorem dX5_reason_78 : decode cX5_reason 78 = .ok (.getfield 12, 3) := by decide +kernel
theorem dX5_reason_81 : decode cX5_reason 81 = .ok (.getfield 161, 3) := by decide +kernel
theorem dX5_reason_84 : decode cX5_reason 84 = .ok (.aload_n 0, 1) := by decide +kernel
theorem dX5_reason_85 : decode cX5_reason 85 = .ok (.getfield 12, 3) := by decide +kernel
theorem dX5_reason_88 : decode cX5_reason 88 = .ok (.iload_n 2, 1) := by decide +kernel
theorem dX5_reason_89 : decode cX5_reason 89 = .ok (.invokevirtual 213, 3) := by decide +kernel
theorem dX5_reason_92 : decode cX5_reason 92 = .ok (.invokevirtual 167, 3) := by decide +kernel
theorem dX5_reason_95 : decode cX5_reason 95 = .ok (.istore 4, 2) := by decide +kernel
theorem dX5_reason_97 : decode cX5_reason 97 = .ok (.iload_n 3, 1) := by decide +kernel
theorem dX5_reason_98 : decode cX5_reason 98 = .ok (.ifCond .ne 5, 3) := by decide +kernel
theorem dX5_reason_101 : decode cX5_reason 101 = .ok (.iconst 4, 1) := by decide +kernel
theorem dX5_reason_102 : decode cX5_reason 102 = .ok (.ireturn, 1) := by decide +kernel
theorem dX5_reason_103 : decode cX5_reason 103 = .ok (.iload 4, 2) := by decide +kernel
theorem dX5_reason_105 : decode cX5_reason 105 = .ok (.ifCond .ne 5, 3) := by decide +kernel
theorem dX5_reason_108 : decode cX5_reason 108 = .ok (.iconst 5, 1) := by decide +kernel
theorem dX5_reason_109 : decode cX5_reason 109 = .ok (.ireturn, 1) := by decide +kernel
theorem dX5_reason_110 : decode cX5_reason 110 = .ok (.iload_n 3, 1) := by decide +kernel
theorem dX5_reason_111 : decode cX5_reason 111 = .ok (.iload 4, 2) := by decide +kernel
theorem dX5_reason_113 : decode cX5_reason 113 = .ok (.iand, 1) := by decide +kernel
theorem dX5_reason_114 : decode cX5_reason 114 = .ok (.ifCond .eq 7, 3) := by decide +kernel
theorem dX5_reason_117 : decode cX5_reason 117 = .ok (.iconst 0, 1) := by decide +kernel
theorem dX5_reason_118 : decode cX5_reason 118 = .ok (.goto 4, 3) := by decide +kernel
theorem dX5_reason_121 : decode cX5_reason 121 = .ok (.iconst 1, 1) := by decide +kernel
theorem dX5_reason_122 : decode cX5_reason 122 = .ok (.ireturn, 1) := by decide +kernel
set_option maxRecDepth 20000 in
theorem ggX5_leastMiddles_X1_fullestBoard : GoodIn wsX5_leastMiddles wsX1_fullestBoard := goodIn_r _ [6, 7, 8, 9, 10, 11, 12, 13, 14, 15, 5, 16, 17, 18, 19, 20, 21, 22, 23, 24, 25, 26, 27, 28, 37, 38, 39, 40, 41, 42, 43, 44, 45, 46, 47, 48, 49, 50, 51, 52, 53] (by decide +kernel) (by decide +kernel)
set_option maxRecDepth 20000 in
theorem gX5_leastMiddles_X1_fullestBoard : GoodIn wsX5_leastMiddles (wsV RX5 216 RX1 yX1_fullestBoard wsX1_fullestBoard) := goodIn_app (goodIn_of _ (by decide +kernel)) ggX5_leastMiddles_X1_fullestBoard
theorem dX5_leastMiddles_0 : decode cX5_leastMiddles 0 = .ok (.aload_n 0, 1) := by decide +kernel
theorem dX5_leastMiddles_1 : decode cX5_leastMiddles 1 = .ok (.getfield 12, 3) := by decide +kernel
theorem dX5_leastMiddles_4 : decode cX5_leastMiddles 4 = .ok (.invokevirtual 216, 3) := by decide +kernel
theorem dX5_leastMiddles_7 : decode cX5_leastMiddles 7 = .ok (.ireturn, 1) := by decide +kernel
set_option maxRecDepth 20000 in
theorem ggX5_wouldDrop_X1_copyFrom : GoodIn wsX5_wouldDrop wsX1_copyFrom := goodIn_r _ [8, 9, 10, 11, 12, 13, 14, 15, 16, 17, 18, 19, 20, 21, 22, 23, 24, 25, 26, 27, 28, 29, 30, 31, 32, 33, 34, 35, 36, 37, 38, 142, 143, 144, 145, 146, 147, 148, 149, 150, 151, 152, 153, 154, 155, 156, 157, 158] (by decide +kernel) (by decide +kernel)
set_option maxRecDepth 20000 in
theorem gX5_wouldDrop_X1_copyFrom : GoodIn wsX5_wouldDrop (wsV RX5 69 RX1 yX1_copyFrom wsX1_copyFrom) := goodIn_app (goodIn_of _ (by decide +kernel)) ggX5_wouldDrop_X1_copyFrom
set_option maxRecDepth 20000 in
theorem ggX5_wouldDrop_X3_retire : GoodIn wsX5_wouldDrop wsX3_retire := goodIn_r _ [43, 44, 45, 46, 47, 48, 7, 49, 11, 50, 51, 52, 53, 54, 55, 28, 56, 30, 57, 58, 59, 60, 21, 23, 24, 20, 61, 62, 63, 64, 65, 10, 66, 67, 68, 69, 70, 71, 72, 73, 74, 42, 75, 76, 77, 78, 79, 80, 81, 82, 19, 83, 84, 85, 86, 87, 88, 89, 90, 91, 92, 93, 94, 95, 96, 97, 98, 99, 12, 100, 101, 102, 103, 104, 105, 106, 107, 108, 9, 109, 110, 111, 112, 113, 114, 115, 116, 117, 118, 119, 120, 121, 122, 123, 124, 22, 125, 126, 127, 128, 129, 130, 131, 132, 133, 142, 143, 144, 145, 146, 147, 148, 149, 150, 151, 152, 153, 154, 155, 156, 157, 158, 159, 160, 161, 162, 163] (by decide +kernel) (by decide +kernel)
set_option maxRecDepth 20000 in
theorem gX5_wouldDrop_X3_retire : GoodIn wsX5_wouldDrop (wsV RX5 84 RX3 yX3_retire wsX3_retire) := goodIn_app (goodIn_of _ (by decide +kernel)) ggX5_wouldDrop_X3_retire
theorem dX5_wouldDrop_0 : decode cX5_wouldDrop 0 = .ok (.aload_n 0, 1) := by decide +kernel
theorem dX5_wouldDrop_1 : decode cX5_wouldDrop 1 = .ok (.getfield 22, 3) := by decide +kernel
theorem dX5_wouldDrop_4 : decode cX5_wouldDrop 4 = .ok (.aload_n 0, 1) := by decide +kernel
theorem dX5_wouldDrop_5 : decode cX5_wouldDrop 5 = .ok (.getfield 12, 3) := by decide +kernel
theorem dX5_wouldDrop_8 : decode cX5_wouldDrop 8 = .ok (.invokevirtual 69, 3) := by decide +kernel
theorem dX5_wouldDrop_11 : decode cX5_wouldDrop 11 = .ok (.aload_n 0, 1) := by decide +kernel
theorem dX5_wouldDrop_12 : decode cX5_wouldDrop 12 = .ok (.getfield 28, 3) := by decide +kernel
theorem dX5_wouldDrop_15 : decode cX5_wouldDrop 15 = .ok (.aload_n 0, 1) := by decide +kernel
theorem dX5_wouldDrop_16 : decode cX5_wouldDrop 16 = .ok (.getfield 22, 3) := by decide +kernel
theorem dX5_wouldDrop_19 : decode cX5_wouldDrop 19 = .ok (.iload_n 1, 1) := by decide +kernel
theorem dX5_wouldDrop_20 : decode cX5_wouldDrop 20 = .ok (.invokevirtual 84, 3) := by decide +kernel
theorem dX5_wouldDrop_23 : decode cX5_wouldDrop 23 = .ok (.ireturn, 1) := by decide +kernel
set_option maxRecDepth 20000 in
theorem ggX5_reachable_X1_isLine : GoodIn wsX5_reachable wsX1_isLine := goodIn_r _ [8, 9, 10, 48, 49, 50, 51, 52, 53, 54, 55, 56, 57, 58, 59, 60, 61, 62, 63] (by decide +kernel) (by decide +kernel)
set_option maxRecDepth 20000 in
theorem gX5_reachable_X1_isLine : GoodIn wsX5_reachable (wsV RX5 124 RX1 yX1_isLine wsX1_isLine) := goodIn_app (goodIn_of _ (by decide +kernel)) ggX5_reachable_X1_isLine
set_option maxRecDepth 20000 in
theorem ggX5_reachable_X1_isInletBusy : GoodIn wsX5_reachable wsX1_isInletBusy := goodIn_r _ [14, 15, 16, 17, 18, 19, 20, 21, 48, 49, 50, 51, 52, 53, 54, 55, 56, 57, 58, 59, 60, 61, 62, 63, 64] (by decide +kernel) (by decide +kernel)
set_option maxRecDepth 20000 in
theorem gX5_reachable_X1_isInletBusy : GoodIn wsX5_reachable (wsV RX5 207 RX1 yX1_isInletBusy wsX1_isInletBusy) := goodIn_app (goodIn_of _ (by decide +kernel)) ggX5_reachable_X1_isInletBusy
set_option maxRecDepth 20000 in
theorem ggX5_reachable_X1_boardOf : GoodIn wsX5_reachable wsX1_boardOf := goodIn_r _ [25, 10, 48, 49, 50, 51, 52, 53, 54, 55, 56, 57, 58, 59, 60, 61, 62, 63] (by decide +kernel) (by decide +kernel)
set_option maxRecDepth 20000 in
theorem gX5_reachable_X1_boardOf : GoodIn wsX5_reachable (wsV RX5 213 RX1 yX1_boardOf wsX1_boardOf) := goodIn_app (goodIn_of _ (by decide +kernel)) ggX5_reachable_X1_boardOf
set_option maxRecDepth 20000 in
theorem ggX5_reachable_X1_freeOnLinks : GoodIn wsX5_reachable wsX1_freeOnLinks := goodIn_r _ [29, 30, 31, 32, 33, 34, 16, 17, 18, 19, 20, 21, 48, 49, 50, 51, 52, 53, 54, 55, 56, 57, 58, 59, 60, 61, 62, 63, 64] (by decide +kernel) (by decide +kernel)
set_option maxRecDepth 20000 in
theorem gX5_reachable_X1_freeOnLinks : GoodIn wsX5_reachable (wsV RX5 167 RX1 yX1_freeOnLinks wsX1_freeOnLinks) := goodIn_app (goodIn_of _ (by decide +kernel)) ggX5_reachable_X1_freeOnLinks
set_option maxRecDepth 20000 in
theorem ggX5_reachable_X1_isOutletBusy : GoodIn wsX5_reachable wsX1_isOutletBusy := goodIn_r _ [38, 39, 16, 17, 18, 19, 20, 21, 48, 49, 50, 51, 52, 53, 54, 55, 56, 57, 58, 59, 60, 61, 62, 63, 64] (by decide +kernel) (by decide +kernel)
set_option maxRecDepth 20000 in
theorem gX5_reachable_X1_isOutletBusy : GoodIn wsX5_reachable (wsV RX5 210 RX1 yX1_isOutletBusy wsX1_isOutletBusy) := goodIn_app (goodIn_of _ (by decide +kernel)) ggX5_reachable_X1_isOutletBusy
theorem dX5_reachable_0 : decode cX5_reachable 0 = .ok (.aload_n 0, 1) := by decide +kernel
theorem dX5_reachable_1 : decode cX5_reachable 1 = .ok (.getfield 12, 3) := by decide +kernel
theorem dX5_reachable_4 : decode cX5_reachable 4 = .ok (.iload_n 1, 1) := by decide +kernel
theorem dX5_reachable_5 : decode cX5_reachable 5 = .ok (.invokevirtual 124, 3) := by decide +kernel
theorem dX5_reachable_8 : decode cX5_reachable 8 = .ok (.ifCond .ne 5, 3) := by decide +kernel
theorem dX5_reachable_11 : decode cX5_reachable 11 = .ok (.iconst (-1), 1) := by decide +kernel
theorem dX5_reachable_12 : decode cX5_reachable 12 = .ok (.ireturn, 1) := by decide +kernel
theorem dX5_reachable_13 : decode cX5_reachable 13 = .ok (.aload_n 0, 1) := by decide +kernel
theorem dX5_reachable_14 : decode cX5_reachable 14 = .ok (.getfield 12, 3) := by decide +kernel
theorem dX5_reachable_17 : decode cX5_reachable 17 = .ok (.iload_n 1, 1) := by decide +kernel
theorem dX5_reachable_18 : decode cX5_reachable 18 = .ok (.invokevirtual 207, 3) := by decide +kernel
theorem dX5_reachable_21 : decode cX5_reachable 21 = .ok (.ifCond .eq 6, 3) := by decide +kernel
theorem dX5_reachable_24 : decode cX5_reachable 24 = .ok (.bipush (-3), 2) := by decide +kernel
theorem dX5_reachable_26 : decode cX5_reachable 26 = .ok (.ireturn, 1) := by decide +kernel
theorem dX5_reachable_27 : decode cX5_reachable 27 = .ok (.aload_n 0, 1) := by decide +kernel
theorem dX5_reachable_28 : decode cX5_reachable 28 = .ok (.getfield 12, 3) := by decide +kernel
theorem dX5_reachable_31 : decode cX5_reachable 31 = .ok (.aload_n 0, 1) := by decide +kernel
theorem dX5_reachable_32 : decode cX5_reachable 32 = .ok (.getfield 12, 3) := by decide +kernel
theorem dX5_reachable_35 : decode cX5_reachable 35 = .ok (.getfield 154, 3) := by decide +kernel
theorem dX5_reachable_38 : decode cX5_reachable 38 = .ok (.aload_n 0, 1) := by decide +kernel
theorem dX5_reachable_39 : decode cX5_reachable 39 = .ok (.getfield 12, 3) := by decide +kernel
theorem dX5_reachable_42 : decode cX5_reachable 42 = .ok (.iload_n 1, 1) := by decide +kernel
theorem dX5_reachable_43 : decode cX5_reachable 43 = .ok (.invokevirtual 213, 3) := by decide +kernel
theorem dX5_reachable_46 : decode cX5_reachable 46 = .ok (.invokevirtual 167, 3) := by decide +kernel
theorem dX5_reachable_49 : decode cX5_reachable 49 = .ok (.istore_n 2, 1) := by decide +kernel
theorem dX5_reachable_50 : decode cX5_reachable 50 = .ok (.iconst 0, 1) := by decide +kernel
theorem dX5_reachable_51 : decode cX5_reachable 51 = .ok (.istore_n 3, 1) := by decide +kernel
theorem dX5_reachable_52 : decode cX5_reachable 52 = .ok (.iconst 0, 1) := by decide +kernel
theorem dX5_reachable_53 : decode cX5_reachable 53 = .ok (.istore 4, 2) := by decide +kernel
theorem dX5_reachable_55 : decode cX5_reachable 55 = .ok (.iload 4, 2) := by decide +kernel
theorem dX5_reachable_57 : decode cX5_reachable 57 = .ok (.bipush 48, 2) := by decide +kernel
theorem dX5_reachable_59 : decode cX5_reachable 59 = .ok (.if_icmp .ge 73, 3) := by decide +kernel
theorem dX5_reachable_62 : decode cX5_reachable 62 = .ok (.aload_n 0, 1) := by decide +kernel
theorem dX5_reachable_63 : decode cX5_reachable 63 = .ok (.getfield 12, 3) := by decide +kernel
theorem dX5_reachable_66 : decode cX5_reachable 66 = .ok (.iload 4, 2) := by decide +kernel
theorem dX5_reachable_68 : decode cX5_reachable 68 = .ok (.invokevirtual 124, 3) := by decide +kernel
theorem dX5_reachable_71 : decode cX5_reachable 71 = .ok (.ifCond .eq 55, 3) := by decide +kernel
theorem dX5_reachable_74 : decode cX5_reachable 74 = .ok (.aload_n 0, 1) := by decide +kernel
theorem dX5_reachable_75 : decode cX5_reachable 75 = .ok (.getfield 12, 3) := by decide +kernel
theorem dX5_reachable_78 : decode cX5_reachable 78 = .ok (.iload 4, 2) := by decide +kernel
theorem dX5_reachable_80 : decode cX5_reachable 80 = .ok (.invokevirtual 210, 3) := by decide +kernel
theorem dX5_reachable_83 : decode cX5_reachable 83 = .ok (.ifCond .ne 43, 3) := by decide +kernel
theorem dX5_reachable_86 : decode cX5_reachable 86 = .ok (.aload_n 0, 1) := by decide +kernel
theorem dX5_reachable_87 : decode cX5_reachable 87 = .ok (.getfield 12, 3) := by decide +kernel
theorem dX5_reachable_90 : decode cX5_reachable 90 = .ok (.aload_n 0, 1) := by decide +kernel
theorem dX5_reachable_91 : decode cX5_reachable 91 = .ok (.getfield 12, 3) := by decide +kernel
theorem dX5_reachable_94 : decode cX5_reachable 94 = .ok (.getfield 161, 3) := by decide +kernel
theorem dX5_reachable_97 : decode cX5_reachable 97 = .ok (.aload_n 0, 1) := by decide +kernel
theorem dX5_reachable_98 : decode cX5_reachable 98 = .ok (.getfield 12, 3) := by decide +kernel
theorem dX5_reachable_101 : decode cX5_reachable 101 = .ok (.iload 4, 2) := by decide +kernel
theorem dX5_reachable_103 : decode cX5_reachable 103 = .ok (.invokevirtual 213, 3) := by decide +kernel
theorem dX5_reachable_106 : decode cX5_reachable 106 = .ok (.invokevirtual 167, 3) := by decide +kernel
theorem dX5_reachable_109 : decode cX5_reachable 109 = .ok (.istore 5, 2) := by decide +kernel
theorem dX5_reachable_111 : decode cX5_reachable 111 = .ok (.iload_n 3, 1) := by decide +kernel
theorem dX5_reachable_112 : decode cX5_reachable 112 = .ok (.iload_n 2, 1) := by decide +kernel
theorem dX5_reachable_113 : decode cX5_reachable 113 = .ok (.iload 5, 2) := by decide +kernel
theorem dX5_reachable_115 : decode cX5_reachable 115 = .ok (.iand, 1) := by decide +kernel
theorem dX5_reachable_116 : decode cX5_reachable 116 = .ok (.ifCond .eq 7, 3) := by decide +kernel
theorem dX5_reachable_119 : decode cX5_reachable 119 = .ok (.iconst 1, 1) := by decide +kernel
theorem dX5_reachable_120 : decode cX5_reachable 120 = .ok (.goto 4, 3) := by decide +kernel
theorem dX5_reachable_123 : decode cX5_reachable 123 = .ok (.iconst 0, 1) := by decide +kernel
theorem dX5_reachable_124 : decode cX5_reachable 124 = .ok (.iadd, 1) := by decide +kernel
theorem dX5_reachable_125 : decode cX5_reachable 125 = .ok (.istore_n 3, 1) := by decide +kernel
theorem dX5_reachable_126 : decode cX5_reachable 126 = .ok (.iinc 4 1, 3) := by decide +kernel
theorem dX5_reachable_129 : decode cX5_reachable 129 = .ok (.goto (-74), 3) := by decide +kernel
theorem dX5_reachable_132 : decode cX5_reachable 132 = .ok (.iload_n 3, 1) := by decide +kernel
theorem dX5_reachable_133 : decode cX5_reachable 133 = .ok (.ireturn, 1) := by decide +kernel
set_option maxRecDepth 20000 in
theorem ggX5_recorded_X0_push : GoodIn wsX5_recorded wsX0_push := goodIn_r _ [7, 8, 9, 10, 11, 12, 13, 14, 15, 16, 6, 17, 18, 19, 20, 21, 22, 23, 24, 25, 26, 27, 28, 29, 30, 31, 32, 33, 34, 35, 36, 37, 38, 39, 40, 41, 42, 43, 44, 45, 46, 47, 48, 49, 50, 59, 60, 61, 62, 63, 64, 65, 66, 67, 68, 69, 70, 71, 72, 73, 74, 75, 76, 77, 78] (by decide +kernel) (by decide +kernel)
set_option maxRecDepth 20000 in
theorem gX5_recorded_X0_push : GoodIn wsX5_recorded (wsV RX5 54 RX0 yX0_push wsX0_push) := goodIn_app (goodIn_of _ (by decide +kernel)) ggX5_recorded_X0_push
theorem dX5_recorded_0 : decode cX5_recorded 0 = .ok (.iload_n 1, 1) := by decide +kernel
theorem dX5_recorded_1 : decode cX5_recorded 1 = .ok (.ifCond .lt 14, 3) := by decide +kernel
theorem dX5_recorded_4 : decode cX5_recorded 4 = .ok (.aload_n 0, 1) := by decide +kernel
theorem dX5_recorded_5 : decode cX5_recorded 5 = .ok (.getfield 35, 3) := by decide +kernel
theorem dX5_recorded_8 : decode cX5_recorded 8 = .ok (.aload_n 0, 1) := by decide +kernel
theorem dX5_recorded_9 : decode cX5_recorded 9 = .ok (.getfield 16, 3) := by decide +kernel
theorem dX5_recorded_12 : decode cX5_recorded 12 = .ok (.invokevirtual 54, 3) := by decide +kernel
theorem dX5_recorded_15 : decode cX5_recorded 15 = .ok (.iload_n 1, 1) := by decide +kernel
theorem dX5_recorded_16 : decode cX5_recorded 16 = .ok (.ireturn, 1) := by decide +kernel
set_option maxRecDepth 20000 in
theorem ggX5_obey_X3_join : GoodIn wsX5_obey wsX3_join := goodIn_r _ [11, 12, 13, 14, 10, 15, 16, 17, 18, 19, 20, 21, 22, 23, 24, 25, 26, 27, 28, 29, 30, 31, 32, 33, 34, 35, 36, 37, 38, 39, 40, 41, 42, 43, 44, 45, 46, 47, 48, 49, 50, 51, 52, 53, 54, 55, 56, 57, 58, 59, 60, 61, 62, 63, 64, 65, 66, 67, 68, 69, 70, 71, 72, 73, 74, 75, 76, 77, 78, 79, 80, 81, 82, 83, 84, 85, 86, 87, 88, 89, 90, 91, 92, 93, 94, 95, 96, 97, 98, 99, 100, 101, 102, 103, 104, 105, 106, 107, 108, 109, 110, 111, 204, 205, 206, 207, 208, 209, 210, 211, 212, 213, 214, 215, 216, 217, 218, 219, 220, 221, 222, 223, 224, 225] (by decide +kernel) (by decide +kernel)
set_option maxRecDepth 20000 in
theorem gX5_obey_X3_join : GoodIn wsX5_obey (wsV RX5 72 RX3 yX3_join wsX3_join) := goodIn_app (goodIn_of _ (by decide +kernel)) ggX5_obey_X3_join
set_option maxRecDepth 20000 in
theorem ggX5_obey_X3_part : GoodIn wsX5_obey wsX3_part := goodIn_r _ [115, 116, 117, 16, 17, 18, 19, 20, 21, 22, 23, 24, 25, 26, 27, 28, 29, 30, 31, 32, 33, 84, 118, 119, 120, 121, 38, 94, 122, 102, 103, 104, 105, 71, 106, 107, 48, 49, 50, 57, 58, 59, 95, 86, 87, 88, 204, 205, 206, 207, 208, 209, 210, 211, 212, 213, 214, 215, 216, 217, 218, 219, 220] (by decide +kernel) (by decide +kernel)
set_option maxRecDepth 20000 in
theorem gX5_obey_X3_part : GoodIn wsX5_obey (wsV RX5 80 RX3 yX3_part wsX3_part) := goodIn_app (goodIn_of _ (by decide +kernel)) ggX5_obey_X3_part
set_option maxRecDepth 20000 in
theorem ggX5_obey_X3_retire : GoodIn wsX5_obey wsX3_retire := goodIn_r _ [126, 127, 128, 129, 130, 131, 19, 132, 55, 65, 58, 66, 84, 29, 30, 31, 32, 33, 101, 102, 103, 104, 105, 71, 106, 94, 28, 107, 48, 49, 50, 22, 57, 59, 95, 86, 87, 88, 133, 134, 135, 10, 136, 83, 100, 137, 138, 139, 140, 141, 27, 142, 24, 25, 26, 39, 40, 41, 42, 43, 44, 45, 46, 47, 51, 52, 53, 54, 56, 60, 61, 62, 63, 64, 67, 68, 69, 70, 21, 72, 73, 74, 75, 76, 77, 78, 79, 80, 81, 82, 85, 118, 119, 120, 121, 38, 122, 96, 97, 98, 99, 108, 109, 110, 111, 204, 205, 206, 207, 208, 209, 210, 211, 212, 213, 214, 215, 216, 217, 218, 219, 220, 221, 222, 223, 224, 225] (by decide +kernel) (by decide +kernel)
set_option maxRecDepth 20000 in
theorem gX5_obey_X3_retire : GoodIn wsX5_obey (wsV RX5 84 RX3 yX3_retire wsX3_retire) := goodIn_app (goodIn_of _ (by decide +kernel)) ggX5_obey_X3_retire
set_option maxRecDepth 20000 in
theorem ggX5_obey_X3_revive : GoodIn wsX5_obey wsX3_revive := goodIn_r _ [146, 127, 129, 130, 131, 19, 132, 55, 65, 58, 66, 147, 148, 149, 150, 151, 152, 153, 204, 205, 206, 207, 208, 209, 210, 211, 212, 213, 214, 215, 216, 217, 218, 219] (by decide +kernel) (by decide +kernel)
set_option maxRecDepth 20000 in
theorem gX5_obey_X3_revive : GoodIn wsX5_obey (wsV RX5 87 RX3 yX3_revive wsX3_revive) := goodIn_app (goodIn_of _ (by decide +kernel)) ggX5_obey_X3_revive
set_option maxRecDepth 20000 in
theorem ggX5_obey_X3_repack : GoodIn wsX5_obey wsX3_repack := goodIn_r _ [157, 127, 100, 158, 128, 159, 160, 161, 19, 162, 27, 28, 29, 30, 31, 32, 33, 163, 164, 165, 166, 21, 22, 167, 168, 169, 170, 142, 24, 25, 26, 171, 35, 36, 37, 38, 172, 173, 10, 174, 65, 58, 66, 175, 176, 177, 178, 179, 180, 181, 182, 183, 184, 185, 101, 102, 103, 104, 105, 71, 106, 94, 107, 48, 49, 50, 57, 59, 95, 86, 87, 88, 133, 134, 135, 136, 83, 137, 138, 139, 140, 141, 84, 39, 40, 41, 42, 43, 44, 45, 46, 47, 51, 52, 53, 54, 55, 56, 60, 61, 62, 63, 64, 67, 68, 69, 70, 72, 73, 74, 75, 76, 77, 78, 79, 80, 81, 82, 85, 118, 119, 120, 121, 122, 96, 97, 98, 99, 108, 109, 110, 111, 186, 187, 188, 189, 204, 205, 206, 207, 208, 209, 210, 211, 212, 213, 214, 215, 216, 217, 218, 219, 221, 222, 223, 224, 225, 220] (by decide +kernel) (by decide +kernel)
set_option maxRecDepth 20000 in
theorem gX5_obey_X3_repack : GoodIn wsX5_obey (wsV RX5 90 RX3 yX3_repack wsX3_repack) := goodIn_app (goodIn_of _ (by decide +kernel)) ggX5_obey_X3_repack
theorem dX5_obey_0 : decode cX5_obey 0 = .ok (.aload_n 0, 1) := by decide +kernel
theorem dX5_obey_1 : decode cX5_obey 1 = .ok (.getfield 42, 3) := by decide +kernel
theorem dX5_obey_4 : decode cX5_obey 4 = .ok (.getfield 219, 3) := by decide +kernel
theorem dX5_obey_7 : decode cX5_obey 7 = .ok (.tableswitch 164 99 112 #[69, 95, 164, 164, 164, 164, 133, 164, 164, 164, 164, 164, 114, 152], 69) := by decide +kernel
theorem dX5_obey_76 : decode cX5_obey 76 = .ok (.aload_n 0, 1) := by decide +kernel
theorem dX5_obey_77 : decode cX5_obey 77 = .ok (.getfield 28, 3) := by decide +kernel
theorem dX5_obey_80 : decode cX5_obey 80 = .ok (.aload_n 0, 1) := by decide +kernel
theorem dX5_obey_81 : decode cX5_obey 81 = .ok (.getfield 12, 3) := by decide +kernel
theorem dX5_obey_84 : decode cX5_obey 84 = .ok (.aload_n 0, 1) := by decide +kernel
theorem dX5_obey_85 : decode cX5_obey 85 = .ok (.getfield 42, 3) := by decide +kernel
theorem dX5_obey_88 : decode cX5_obey 88 = .ok (.getfield 222, 3) := by decide +kernel
theorem dX5_obey_91 : decode cX5_obey 91 = .ok (.aload_n 0, 1) := by decide +kernel
theorem dX5_obey_92 : decode cX5_obey 92 = .ok (.getfield 42, 3) := by decide +kernel
theorem dX5_obey_95 : decode cX5_obey 95 = .ok (.getfield 225, 3) := by decide +kernel
theorem dX5_obey_98 : decode cX5_obey 98 = .ok (.invokevirtual 72, 3) := by decide +kernel
theorem dX5_obey_101 : decode cX5_obey 101 = .ok (.ireturn, 1) := by decide +kernel
theorem dX5_obey_102 : decode cX5_obey 102 = .ok (.aload_n 0, 1) := by decide +kernel
theorem dX5_obey_103 : decode cX5_obey 103 = .ok (.getfield 28, 3) := by decide +kernel
theorem dX5_obey_106 : decode cX5_obey 106 = .ok (.aload_n 0, 1) := by decide +kernel
theorem dX5_obey_107 : decode cX5_obey 107 = .ok (.getfield 12, 3) := by decide +kernel
theorem dX5_obey_110 : decode cX5_obey 110 = .ok (.aload_n 0, 1) := by decide +kernel
theorem dX5_obey_111 : decode cX5_obey 111 = .ok (.getfield 42, 3) := by decide +kernel
theorem dX5_obey_114 : decode cX5_obey 114 = .ok (.getfield 222, 3) := by decide +kernel
theorem dX5_obey_117 : decode cX5_obey 117 = .ok (.invokevirtual 80, 3) := by decide +kernel
theorem dX5_obey_120 : decode cX5_obey 120 = .ok (.ireturn, 1) := by decide +kernel
theorem dX5_obey_121 : decode cX5_obey 121 = .ok (.aload_n 0, 1) := by decide +kernel
theorem dX5_obey_122 : decode cX5_obey 122 = .ok (.getfield 28, 3) := by decide +kernel
theorem dX5_obey_125 : decode cX5_obey 125 = .ok (.aload_n 0, 1) := by decide +kernel
theorem dX5_obey_126 : decode cX5_obey 126 = .ok (.getfield 12, 3) := by decide +kernel
theorem dX5_obey_129 : decode cX5_obey 129 = .ok (.aload_n 0, 1) := by decide +kernel
theorem dX5_obey_130 : decode cX5_obey 130 = .ok (.getfield 42, 3) := by decide +kernel
theorem dX5_obey_133 : decode cX5_obey 133 = .ok (.getfield 222, 3) := by decide +kernel
theorem dX5_obey_136 : decode cX5_obey 136 = .ok (.invokevirtual 84, 3) := by decide +kernel
theorem dX5_obey_139 : decode cX5_obey 139 = .ok (.ireturn, 1) := by decide +kernel
theorem dX5_obey_140 : decode cX5_obey 140 = .ok (.aload_n 0, 1) := by decide +kernel
theorem dX5_obey_141 : decode cX5_obey 141 = .ok (.getfield 28, 3) := by decide +kernel
theorem dX5_obey_144 : decode cX5_obey 144 = .ok (.aload_n 0, 1) := by decide +kernel
theorem dX5_obey_145 : decode cX5_obey 145 = .ok (.getfield 12, 3) := by decide +kernel
theorem dX5_obey_148 : decode cX5_obey 148 = .ok (.aload_n 0, 1) := by decide +kernel
theorem dX5_obey_149 : decode cX5_obey 149 = .ok (.getfield 42, 3) := by decide +kernel
theorem dX5_obey_152 : decode cX5_obey 152 = .ok (.getfield 222, 3) := by decide +kernel
theorem dX5_obey_155 : decode cX5_obey 155 = .ok (.invokevirtual 87, 3) := by decide +kernel
theorem dX5_obey_158 : decode cX5_obey 158 = .ok (.ireturn, 1) := by decide +kernel
theorem dX5_obey_159 : decode cX5_obey 159 = .ok (.aload_n 0, 1) := by decide +kernel
theorem dX5_obey_160 : decode cX5_obey 160 = .ok (.getfield 28, 3) := by decide +kernel
theorem dX5_obey_163 : decode cX5_obey 163 = .ok (.aload_n 0, 1) := by decide +kernel
theorem dX5_obey_164 : decode cX5_obey 164 = .ok (.getfield 12, 3) := by decide +kernel
theorem dX5_obey_167 : decode cX5_obey 167 = .ok (.invokevirtual 90, 3) := by decide +kernel
theorem dX5_obey_170 : decode cX5_obey 170 = .ok (.ireturn, 1) := by decide +kernel
theorem dX5_obey_171 : decode cX5_obey 171 = .ok (.bipush (-6), 2) := by decide +kernel
theorem dX5_obey_173 : decode cX5_obey 173 = .ok (.ireturn, 1) := by decide +kernel
end
section
set_option maxRecDepth 20000 in
theorem ggX6_init_X6_builds : GoodIn wsX6_init wsX6_builds := goodIn_r _ [13, 5, 14, 15, 16, 12, 17, 18, 19, 20, 21, 22, 23, 24, 25, 26, 27, 28, 29] (by decide +kernel) (by decide +kernel)
set_option maxRecDepth 20000 in
theorem gX6_init_X6_builds : GoodIn wsX6_init (wsV RX6 22 RX6 yX6_builds wsX6_builds) := goodIn_app (goodIn_of _ (by decide +kernel)) ggX6_init_X6_builds
theorem dX6_init_0 : decode cX6_init 0 = .ok (.aload_n 0, 1) := by decide +kernel
theorem dX6_init_1 : decode cX6_init 1 = .ok (.invokespecial 1, 3) := by decide +kernel
theorem dX6_init_4 : decode cX6_init 4 = .ok (.aload_n 0, 1) := by decide +kernel
theorem dX6_init_5 : decode cX6_init 5 = .ok (.sipush 1078, 3) := by decide +kernel
theorem dX6_init_8 : decode cX6_init 8 = .ok (.newarray .int, 2) := by decide +kernel
theorem dX6_init_10 : decode cX6_init 10 = .ok (.putfield 7, 3) := by decide +kernel
theorem dX6_init_13 : decode cX6_init 13 = .ok (.aload_n 0, 1) := by decide +kernel
theorem dX6_init_14 : decode cX6_init 14 = .ok (.bipush 60, 2) := by decide +kernel
theorem dX6_init_16 : decode cX6_init 16 = .ok (.newarray .int, 2) := by decide +kernel
theorem dX6_init_18 : decode cX6_init 18 = .ok (.putfield 13, 3) := by decide +kernel
theorem dX6_init_21 : decode cX6_init 21 = .ok (.aload_n 0, 1) := by decide +kernel
theorem dX6_init_22 : decode cX6_init 22 = .ok (.bipush 48, 2) := by decide +kernel
theorem dX6_init_24 : decode cX6_init 24 = .ok (.newarray .int, 2) := by decide +kernel
theorem dX6_init_26 : decode cX6_init 26 = .ok (.putfield 16, 3) := by decide +kernel
theorem dX6_init_29 : decode cX6_init 29 = .ok (.aload_n 0, 1) := by decide +kernel
theorem dX6_init_30 : decode cX6_init 30 = .ok (.bipush 48, 2) := by decide +kernel
theorem dX6_init_32 : decode cX6_init 32 = .ok (.newarray .int, 2) := by decide +kernel
theorem dX6_init_34 : decode cX6_init 34 = .ok (.putfield 19, 3) := by decide +kernel
theorem dX6_init_37 : decode cX6_init 37 = .ok (.aload_n 0, 1) := by decide +kernel
theorem dX6_init_38 : decode cX6_init 38 = .ok (.iconst 0, 1) := by decide +kernel
theorem dX6_init_39 : decode cX6_init 39 = .ok (.iconst 4, 1) := by decide +kernel
theorem dX6_init_40 : decode cX6_init 40 = .ok (.iconst 3, 1) := by decide +kernel
theorem dX6_init_41 : decode cX6_init 41 = .ok (.iconst 3, 1) := by decide +kernel
theorem dX6_init_42 : decode cX6_init 42 = .ok (.invokevirtual 22, 3) := by decide +kernel
theorem dX6_init_45 : decode cX6_init 45 = .ok (.return_, 1) := by decide +kernel
theorem dX6_in_0 : decode cX6_in 0 = .ok (.iload_n 0, 1) := by decide +kernel
theorem dX6_in_1 : decode cX6_in 1 = .ok (.iload_n 1, 1) := by decide +kernel
theorem dX6_in_2 : decode cX6_in 2 = .ok (.if_icmp .lt 12, 3) := by decide +kernel
theorem dX6_in_5 : decode cX6_in 5 = .ok (.iload_n 0, 1) := by decide +kernel
theorem dX6_in_6 : decode cX6_in 6 = .ok (.iload_n 2, 1) := by decide +kernel
theorem dX6_in_7 : decode cX6_in 7 = .ok (.if_icmp .gt 7, 3) := by decide +kernel
theorem dX6_in_10 : decode cX6_in 10 = .ok (.iconst 1, 1) := by decide +kernel
theorem dX6_in_11 : decode cX6_in 11 = .ok (.goto 4, 3) := by decide +kernel
theorem dX6_in_14 : decode cX6_in 14 = .ok (.iconst 0, 1) := by decide +kernel
theorem dX6_in_15 : decode cX6_in 15 = .ok (.ireturn, 1) := by decide +kernel
theorem dX6_has_0 : decode cX6_has 0 = .ok (.iload_n 0, 1) := by decide +kernel
theorem dX6_has_1 : decode cX6_has 1 = .ok (.iload_n 1, 1) := by decide +kernel
theorem dX6_has_2 : decode cX6_has 2 = .ok (.ishr, 1) := by decide +kernel
theorem dX6_has_3 : decode cX6_has 3 = .ok (.iconst 1, 1) := by decide +kernel
theorem dX6_has_4 : decode cX6_has 4 = .ok (.iand, 1) := by decide +kernel
theorem dX6_has_5 : decode cX6_has 5 = .ok (.iconst 1, 1) := by decide +kernel
theorem dX6_has_6 : decode cX6_has 6 = .ok (.if_icmp .ne 7, 3) := by decide +kernel
theorem dX6_has_9 : decode cX6_has 9 = .ok (.iconst 1, 1) := by decide +kernel
theorem dX6_has_10 : decode cX6_has 10 = .ok (.goto 4, 3) := by decide +kernel
theorem dX6_has_13 : decode cX6_has 13 = .ok (.iconst 0, 1) := by decide +kernel
theorem dX6_has_14 : decode cX6_has 14 = .ok (.ireturn, 1) := by decide +kernel
set_option maxRecDepth 20000 in
theorem ggX6_lowest_X6_has : GoodIn wsX6_lowest wsX6_has := goodIn_r _ [4] (by decide +kernel) (by decide +kernel)
set_option maxRecDepth 20000 in
theorem gX6_lowest_X6_has : GoodIn wsX6_lowest (va_wsS RX6 26 yX6_has wsX6_has) := goodIn_app (goodIn_of _ (by decide +kernel)) ggX6_lowest_X6_has
theorem dX6_lowest_0 : decode cX6_lowest 0 = .ok (.iconst 0, 1) := by decide +kernel
theorem dX6_lowest_1 : decode cX6_lowest 1 = .ok (.istore_n 1, 1) := by decide +kernel
theorem dX6_lowest_2 : decode cX6_lowest 2 = .ok (.iload_n 0, 1) := by decide +kernel
theorem dX6_lowest_3 : decode cX6_lowest 3 = .ok (.iload_n 1, 1) := by decide +kernel
theorem dX6_lowest_4 : decode cX6_lowest 4 = .ok (.invokestatic 26, 3) := by decide +kernel
theorem dX6_lowest_7 : decode cX6_lowest 7 = .ok (.ifCond .ne 9, 3) := by decide +kernel
theorem dX6_lowest_10 : decode cX6_lowest 10 = .ok (.iinc 1 1, 3) := by decide +kernel
theorem dX6_lowest_13 : decode cX6_lowest 13 = .ok (.goto (-11), 3) := by decide +kernel
theorem dX6_lowest_16 : decode cX6_lowest 16 = .ok (.iload_n 1, 1) := by decide +kernel
theorem dX6_lowest_17 : decode cX6_lowest 17 = .ok (.ireturn, 1) := by decide +kernel
theorem dX6_bits_0 : decode cX6_bits 0 = .ok (.iconst 0, 1) := by decide +kernel
theorem dX6_bits_1 : decode cX6_bits 1 = .ok (.istore_n 1, 1) := by decide +kernel
theorem dX6_bits_2 : decode cX6_bits 2 = .ok (.iconst 0, 1) := by decide +kernel
theorem dX6_bits_3 : decode cX6_bits 3 = .ok (.istore_n 2, 1) := by decide +kernel
theorem dX6_bits_4 : decode cX6_bits 4 = .ok (.iload_n 2, 1) := by decide +kernel
theorem dX6_bits_5 : decode cX6_bits 5 = .ok (.bipush 8, 2) := by decide +kernel
theorem dX6_bits_7 : decode cX6_bits 7 = .ok (.if_icmp .ge 17, 3) := by decide +kernel
theorem dX6_bits_10 : decode cX6_bits 10 = .ok (.iload_n 1, 1) := by decide +kernel
theorem dX6_bits_11 : decode cX6_bits 11 = .ok (.iload_n 0, 1) := by decide +kernel
theorem dX6_bits_12 : decode cX6_bits 12 = .ok (.iload_n 2, 1) := by decide +kernel
theorem dX6_bits_13 : decode cX6_bits 13 = .ok (.ishr, 1) := by decide +kernel
theorem dX6_bits_14 : decode cX6_bits 14 = .ok (.iconst 1, 1) := by decide +kernel
theorem dX6_bits_15 : decode cX6_bits 15 = .ok (.iand, 1) := by decide +kernel
theorem dX6_bits_16 : decode cX6_bits 16 = .ok (.iadd, 1) := by decide +kernel
theorem dX6_bits_17 : decode cX6_bits 17 = .ok (.istore_n 1, 1) := by decide +kernel
theorem dX6_bits_18 : decode cX6_bits 18 = .ok (.iinc 2 1, 3) := by decide +kernel
theorem dX6_bits_21 : decode cX6_bits 21 = .ok (.goto (-17), 3) := by decide +kernel
theorem dX6_bits_24 : decode cX6_bits 24 = .ok (.iload_n 1, 1) := by decide +kernel
theorem dX6_bits_25 : decode cX6_bits 25 = .ok (.ireturn, 1) := by decide +kernel
theorem dX6_of_0 : decode cX6_of 0 = .ok (.aload_n 0, 1) := by decide +kernel
theorem dX6_of_1 : decode cX6_of 1 = .ok (.getfield 7, 3) := by decide +kernel
theorem dX6_of_4 : decode cX6_of 4 = .ok (.iload_n 1, 1) := by decide +kernel
theorem dX6_of_5 : decode cX6_of 5 = .ok (.bipush 10, 2) := by decide +kernel
theorem dX6_of_7 : decode cX6_of 7 = .ok (.iadd, 1) := by decide +kernel
theorem dX6_of_8 : decode cX6_of 8 = .ok (.iconst 3, 1) := by decide +kernel
theorem dX6_of_9 : decode cX6_of 9 = .ok (.iload_n 2, 1) := by decide +kernel
theorem dX6_of_10 : decode cX6_of 10 = .ok (.imul, 1) := by decide +kernel
theorem dX6_of_11 : decode cX6_of 11 = .ok (.iadd, 1) := by decide +kernel
theorem dX6_of_12 : decode cX6_of 12 = .ok (.iload_n 3, 1) := by decide +kernel
theorem dX6_of_13 : decode cX6_of 13 = .ok (.iadd, 1) := by decide +kernel
theorem dX6_of_14 : decode cX6_of 14 = .ok (.iaload, 1) := by decide +kernel
theorem dX6_of_15 : decode cX6_of 15 = .ok (.ireturn, 1) := by decide +kernel
theorem dX6_lay_0 : decode cX6_lay 0 = .ok (.aload_n 0, 1) := by decide +kernel
theorem dX6_lay_1 : decode cX6_lay 1 = .ok (.getfield 7, 3) := by decide +kernel
theorem dX6_lay_4 : decode cX6_lay 4 = .ok (.iload_n 1, 1) := by decide +kernel
theorem dX6_lay_5 : decode cX6_lay 5 = .ok (.bipush 10, 2) := by decide +kernel
theorem dX6_lay_7 : decode cX6_lay 7 = .ok (.iadd, 1) := by decide +kernel
theorem dX6_lay_8 : decode cX6_lay 8 = .ok (.iconst 3, 1) := by decide +kernel
theorem dX6_lay_9 : decode cX6_lay 9 = .ok (.iload_n 2, 1) := by decide +kernel
theorem dX6_lay_10 : decode cX6_lay 10 = .ok (.imul, 1) := by decide +kernel
theorem dX6_lay_11 : decode cX6_lay 11 = .ok (.iadd, 1) := by decide +kernel
theorem dX6_lay_12 : decode cX6_lay 12 = .ok (.iload_n 3, 1) := by decide +kernel
theorem dX6_lay_13 : decode cX6_lay 13 = .ok (.iadd, 1) := by decide +kernel
theorem dX6_lay_14 : decode cX6_lay 14 = .ok (.iload 4, 2) := by decide +kernel
theorem dX6_lay_16 : decode cX6_lay 16 = .ok (.iastore, 1) := by decide +kernel
theorem dX6_lay_17 : decode cX6_lay 17 = .ok (.return_, 1) := by decide +kernel
theorem dX6_lines_0 : decode cX6_lines 0 = .ok (.aload_n 0, 1) := by decide +kernel
theorem dX6_lines_1 : decode cX6_lines 1 = .ok (.getfield 7, 3) := by decide +kernel
theorem dX6_lines_4 : decode cX6_lines 4 = .ok (.iload_n 1, 1) := by decide +kernel
theorem dX6_lines_5 : decode cX6_lines 5 = .ok (.iconst 0, 1) := by decide +kernel
theorem dX6_lines_6 : decode cX6_lines 6 = .ok (.iadd, 1) := by decide +kernel
theorem dX6_lines_7 : decode cX6_lines 7 = .ok (.iaload, 1) := by decide +kernel
theorem dX6_lines_8 : decode cX6_lines 8 = .ok (.aload_n 0, 1) := by decide +kernel
theorem dX6_lines_9 : decode cX6_lines 9 = .ok (.getfield 7, 3) := by decide +kernel
theorem dX6_lines_12 : decode cX6_lines 12 = .ok (.iload_n 1, 1) := by decide +kernel
theorem dX6_lines_13 : decode cX6_lines 13 = .ok (.iconst 1, 1) := by decide +kernel
theorem dX6_lines_14 : decode cX6_lines 14 = .ok (.iadd, 1) := by decide +kernel
theorem dX6_lines_15 : decode cX6_lines 15 = .ok (.iaload, 1) := by decide +kernel
theorem dX6_lines_16 : decode cX6_lines 16 = .ok (.imul, 1) := by decide +kernel
theorem dX6_lines_17 : decode cX6_lines 17 = .ok (.ireturn, 1) := by decide +kernel
set_option maxRecDepth 20000 in
theorem ggX6_isLine_X6_lines : GoodIn wsX6_isLine wsX6_lines := goodIn_r _ [5, 6, 10, 11, 12, 13, 14, 15, 16, 17, 18, 19, 20, 21] (by decide +kernel) (by decide +kernel)
set_option maxRecDepth 20000 in
theorem gX6_isLine_X6_lines : GoodIn wsX6_isLine (wsV RX6 30 RX6 yX6_lines wsX6_lines) := goodIn_app (goodIn_of _ (by decide +kernel)) ggX6_isLine_X6_lines
set_option maxRecDepth 20000 in
theorem ggX6_isLine_X6_in : GoodIn wsX6_isLine wsX6_in := goodIn_r _ [9] (by decide +kernel) (by decide +kernel)
set_option maxRecDepth 20000 in
theorem gX6_isLine_X6_in : GoodIn wsX6_isLine (va_wsS RX6 34 yX6_in wsX6_in) := goodIn_app (goodIn_of _ (by decide +kernel)) ggX6_isLine_X6_in
theorem dX6_isLine_0 : decode cX6_isLine 0 = .ok (.iload_n 2, 1) := by decide +kernel
theorem dX6_isLine_1 : decode cX6_isLine 1 = .ok (.iconst 0, 1) := by decide +kernel
theorem dX6_isLine_2 : decode cX6_isLine 2 = .ok (.aload_n 0, 1) := by decide +kernel
theorem dX6_isLine_3 : decode cX6_isLine 3 = .ok (.iload_n 1, 1) := by decide +kernel
theorem dX6_isLine_4 : decode cX6_isLine 4 = .ok (.invokevirtual 30, 3) := by decide +kernel
theorem dX6_isLine_7 : decode cX6_isLine 7 = .ok (.iconst 1, 1) := by decide +kernel
theorem dX6_isLine_8 : decode cX6_isLine 8 = .ok (.isub, 1) := by decide +kernel
theorem dX6_isLine_9 : decode cX6_isLine 9 = .ok (.invokestatic 34, 3) := by decide +kernel
theorem dX6_isLine_12 : decode cX6_isLine 12 = .ok (.ireturn, 1) := by decide +kernel
set_option maxRecDepth 20000 in
theorem ggX6_isBoard_X6_in : GoodIn wsX6_isBoard wsX6_in := goodIn_r _ [5] (by decide +kernel) (by decide +kernel)
set_option maxRecDepth 20000 in
theorem gX6_isBoard_X6_in : GoodIn wsX6_isBoard (va_wsS RX6 34 yX6_in wsX6_in) := goodIn_app (goodIn_of _ (by decide +kernel)) ggX6_isBoard_X6_in
theorem dX6_isBoard_0 : decode cX6_isBoard 0 = .ok (.iload_n 1, 1) := by decide +kernel
theorem dX6_isBoard_1 : decode cX6_isBoard 1 = .ok (.iconst 0, 1) := by decide +kernel
theorem dX6_isBoard_2 : decode cX6_isBoard 2 = .ok (.aload_n 0, 1) := by decide +kernel
theorem dX6_isBoard_3 : decode cX6_isBoard 3 = .ok (.getfield 7, 3) := by decide +kernel
theorem dX6_isBoard_6 : decode cX6_isBoard 6 = .ok (.iconst 0, 1) := by decide +kernel
theorem dX6_isBoard_7 : decode cX6_isBoard 7 = .ok (.iaload, 1) := by decide +kernel
theorem dX6_isBoard_8 : decode cX6_isBoard 8 = .ok (.iconst 1, 1) := by decide +kernel
theorem dX6_isBoard_9 : decode cX6_isBoard 9 = .ok (.isub, 1) := by decide +kernel
theorem dX6_isBoard_10 : decode cX6_isBoard 10 = .ok (.invokestatic 34, 3) := by decide +kernel
theorem dX6_isBoard_13 : decode cX6_isBoard 13 = .ok (.ireturn, 1) := by decide +kernel
set_option maxRecDepth 20000 in
theorem ggX6_isMiddle_X6_in : GoodIn wsX6_isMiddle wsX6_in := goodIn_r _ [5] (by decide +kernel) (by decide +kernel)
set_option maxRecDepth 20000 in
theorem gX6_isMiddle_X6_in : GoodIn wsX6_isMiddle (va_wsS RX6 34 yX6_in wsX6_in) := goodIn_app (goodIn_of _ (by decide +kernel)) ggX6_isMiddle_X6_in
theorem dX6_isMiddle_0 : decode cX6_isMiddle 0 = .ok (.iload_n 2, 1) := by decide +kernel
theorem dX6_isMiddle_1 : decode cX6_isMiddle 1 = .ok (.iconst 0, 1) := by decide +kernel
theorem dX6_isMiddle_2 : decode cX6_isMiddle 2 = .ok (.aload_n 0, 1) := by decide +kernel
theorem dX6_isMiddle_3 : decode cX6_isMiddle 3 = .ok (.getfield 7, 3) := by decide +kernel
theorem dX6_isMiddle_6 : decode cX6_isMiddle 6 = .ok (.iload_n 1, 1) := by decide +kernel
theorem dX6_isMiddle_7 : decode cX6_isMiddle 7 = .ok (.iconst 2, 1) := by decide +kernel
theorem dX6_isMiddle_8 : decode cX6_isMiddle 8 = .ok (.iadd, 1) := by decide +kernel
theorem dX6_isMiddle_9 : decode cX6_isMiddle 9 = .ok (.iaload, 1) := by decide +kernel
theorem dX6_isMiddle_10 : decode cX6_isMiddle 10 = .ok (.iconst 1, 1) := by decide +kernel
theorem dX6_isMiddle_11 : decode cX6_isMiddle 11 = .ok (.isub, 1) := by decide +kernel
theorem dX6_isMiddle_12 : decode cX6_isMiddle 12 = .ok (.invokestatic 34, 3) := by decide +kernel
theorem dX6_isMiddle_15 : decode cX6_isMiddle 15 = .ok (.ireturn, 1) := by decide +kernel
set_option maxRecDepth 20000 in
theorem ggX6_builds_X6_lay : GoodIn wsX6_builds wsX6_lay := goodIn_r _ [6, 1, 7, 8, 9, 10, 11, 12, 13, 14, 15, 16, 17, 18] (by decide +kernel) (by decide +kernel)
set_option maxRecDepth 20000 in
theorem gX6_builds_X6_lay : GoodIn wsX6_builds (wsV RX6 38 RX6 yX6_lay wsX6_lay) := goodIn_app (goodIn_of _ (by decide +kernel)) ggX6_builds_X6_lay
theorem dX6_builds_0 : decode cX6_builds 0 = .ok (.aload_n 0, 1) := by decide +kernel
theorem dX6_builds_1 : decode cX6_builds 1 = .ok (.getfield 7, 3) := by decide +kernel
theorem dX6_builds_4 : decode cX6_builds 4 = .ok (.iload_n 1, 1) := by decide +kernel
theorem dX6_builds_5 : decode cX6_builds 5 = .ok (.iconst 0, 1) := by decide +kernel
theorem dX6_builds_6 : decode cX6_builds 6 = .ok (.iadd, 1) := by decide +kernel
theorem dX6_builds_7 : decode cX6_builds 7 = .ok (.iload_n 2, 1) := by decide +kernel
theorem dX6_builds_8 : decode cX6_builds 8 = .ok (.iastore, 1) := by decide +kernel
theorem dX6_builds_9 : decode cX6_builds 9 = .ok (.aload_n 0, 1) := by decide +kernel
theorem dX6_builds_10 : decode cX6_builds 10 = .ok (.getfield 7, 3) := by decide +kernel
theorem dX6_builds_13 : decode cX6_builds 13 = .ok (.iload_n 1, 1) := by decide +kernel
theorem dX6_builds_14 : decode cX6_builds 14 = .ok (.iconst 1, 1) := by decide +kernel
theorem dX6_builds_15 : decode cX6_builds 15 = .ok (.iadd, 1) := by decide +kernel
theorem dX6_builds_16 : decode cX6_builds 16 = .ok (.iload_n 3, 1) := by decide +kernel
theorem dX6_builds_17 : decode cX6_builds 17 = .ok (.iastore, 1) := by decide +kernel
theorem dX6_builds_18 : decode cX6_builds 18 = .ok (.aload_n 0, 1) := by decide +kernel
theorem dX6_builds_19 : decode cX6_builds 19 = .ok (.getfield 7, 3) := by decide +kernel
theorem dX6_builds_22 : decode cX6_builds 22 = .ok (.iload_n 1, 1) := by decide +kernel
theorem dX6_builds_23 : decode cX6_builds 23 = .ok (.iconst 2, 1) := by decide +kernel
theorem dX6_builds_24 : decode cX6_builds 24 = .ok (.iadd, 1) := by decide +kernel
theorem dX6_builds_25 : decode cX6_builds 25 = .ok (.iload 4, 2) := by decide +kernel
theorem dX6_builds_27 : decode cX6_builds 27 = .ok (.iastore, 1) := by decide +kernel
theorem dX6_builds_28 : decode cX6_builds 28 = .ok (.aload_n 0, 1) := by decide +kernel
theorem dX6_builds_29 : decode cX6_builds 29 = .ok (.getfield 7, 3) := by decide +kernel
theorem dX6_builds_32 : decode cX6_builds 32 = .ok (.iload_n 1, 1) := by decide +kernel
theorem dX6_builds_33 : decode cX6_builds 33 = .ok (.bipush 9, 2) := by decide +kernel
theorem dX6_builds_35 : decode cX6_builds 35 = .ok (.iadd, 1) := by decide +kernel
theorem dX6_builds_36 : decode cX6_builds 36 = .ok (.iconst 1, 1) := by decide +kernel
theorem dX6_builds_37 : decode cX6_builds 37 = .ok (.iload 4, 2) := by decide +kernel
theorem dX6_builds_39 : decode cX6_builds 39 = .ok (.ishl, 1) := by decide +kernel
theorem dX6_builds_40 : decode cX6_builds 40 = .ok (.iconst 1, 1) := by decide +kernel
theorem dX6_builds_41 : decode cX6_builds 41 = .ok (.isub, 1) := by decide +kernel
theorem dX6_builds_42 : decode cX6_builds 42 = .ok (.iastore, 1) := by decide +kernel
theorem dX6_builds_43 : decode cX6_builds 43 = .ok (.iconst 0, 1) := by decide +kernel
theorem dX6_builds_44 : decode cX6_builds 44 = .ok (.istore 5, 2) := by decide +kernel
theorem dX6_builds_46 : decode cX6_builds 46 = .ok (.iload 5, 2) := by decide +kernel
theorem dX6_builds_48 : decode cX6_builds 48 = .ok (.bipush 48, 2) := by decide +kernel
theorem dX6_builds_50 : decode cX6_builds 50 = .ok (.if_icmp .ge 36, 3) := by decide +kernel
theorem dX6_builds_53 : decode cX6_builds 53 = .ok (.aload_n 0, 1) := by decide +kernel
theorem dX6_builds_54 : decode cX6_builds 54 = .ok (.iload_n 1, 1) := by decide +kernel
theorem dX6_builds_55 : decode cX6_builds 55 = .ok (.iload 5, 2) := by decide +kernel
theorem dX6_builds_57 : decode cX6_builds 57 = .ok (.iconst 0, 1) := by decide +kernel
theorem dX6_builds_58 : decode cX6_builds 58 = .ok (.iconst (-1), 1) := by decide +kernel
theorem dX6_builds_59 : decode cX6_builds 59 = .ok (.invokevirtual 38, 3) := by decide +kernel
theorem dX6_builds_62 : decode cX6_builds 62 = .ok (.aload_n 0, 1) := by decide +kernel
theorem dX6_builds_63 : decode cX6_builds 63 = .ok (.iload_n 1, 1) := by decide +kernel
theorem dX6_builds_64 : decode cX6_builds 64 = .ok (.iload 5, 2) := by decide +kernel
theorem dX6_builds_66 : decode cX6_builds 66 = .ok (.iconst 1, 1) := by decide +kernel
theorem dX6_builds_67 : decode cX6_builds 67 = .ok (.iconst (-1), 1) := by decide +kernel
theorem dX6_builds_68 : decode cX6_builds 68 = .ok (.invokevirtual 38, 3) := by decide +kernel
theorem dX6_builds_71 : decode cX6_builds 71 = .ok (.aload_n 0, 1) := by decide +kernel
theorem dX6_builds_72 : decode cX6_builds 72 = .ok (.iload_n 1, 1) := by decide +kernel
theorem dX6_builds_73 : decode cX6_builds 73 = .ok (.iload 5, 2) := by decide +kernel
theorem dX6_builds_75 : decode cX6_builds 75 = .ok (.iconst 2, 1) := by decide +kernel
theorem dX6_builds_76 : decode cX6_builds 76 = .ok (.iconst (-1), 1) := by decide +kernel
theorem dX6_builds_77 : decode cX6_builds 77 = .ok (.invokevirtual 38, 3) := by decide +kernel
theorem dX6_builds_80 : decode cX6_builds 80 = .ok (.iinc 5 1, 3) := by decide +kernel
theorem dX6_builds_83 : decode cX6_builds 83 = .ok (.goto (-37), 3) := by decide +kernel
theorem dX6_builds_86 : decode cX6_builds 86 = .ok (.return_, 1) := by decide +kernel
set_option maxRecDepth 20000 in
theorem ggX6_calls_X6_lines : GoodIn wsX6_calls wsX6_lines := goodIn_r _ [5, 6, 11, 12, 13, 14, 15, 16, 17, 18, 19, 20, 21, 22] (by decide +kernel) (by decide +kernel)
set_option maxRecDepth 20000 in
theorem gX6_calls_X6_lines : GoodIn wsX6_calls (wsV RX6 30 RX6 yX6_lines wsX6_lines) := goodIn_app (goodIn_of _ (by decide +kernel)) ggX6_calls_X6_lines
set_option maxRecDepth 20000 in
theorem ggX6_calls_X6_of : GoodIn wsX6_calls wsX6_of := goodIn_r _ [10, 6, 11, 12, 13, 14, 15, 16, 17, 18, 19, 20, 21, 22] (by decide +kernel) (by decide +kernel)
set_option maxRecDepth 20000 in
theorem gX6_calls_X6_of : GoodIn wsX6_calls (wsV RX6 41 RX6 yX6_of wsX6_of) := goodIn_app (goodIn_of _ (by decide +kernel)) ggX6_calls_X6_of
theorem dX6_calls_0 : decode cX6_calls 0 = .ok (.iconst 0, 1) := by decide +kernel
theorem dX6_calls_1 : decode cX6_calls 1 = .ok (.istore_n 2, 1) := by decide +kernel
theorem dX6_calls_2 : decode cX6_calls 2 = .ok (.iconst 0, 1) := by decide +kernel
theorem dX6_calls_3 : decode cX6_calls 3 = .ok (.istore_n 3, 1) := by decide +kernel
theorem dX6_calls_4 : decode cX6_calls 4 = .ok (.iload_n 3, 1) := by decide +kernel
theorem dX6_calls_5 : decode cX6_calls 5 = .ok (.aload_n 0, 1) := by decide +kernel
theorem dX6_calls_6 : decode cX6_calls 6 = .ok (.iload_n 1, 1) := by decide +kernel
theorem dX6_calls_7 : decode cX6_calls 7 = .ok (.invokevirtual 30, 3) := by decide +kernel
theorem dX6_calls_10 : decode cX6_calls 10 = .ok (.if_icmp .ge 28, 3) := by decide +kernel
theorem dX6_calls_13 : decode cX6_calls 13 = .ok (.iload_n 2, 1) := by decide +kernel
theorem dX6_calls_14 : decode cX6_calls 14 = .ok (.aload_n 0, 1) := by decide +kernel
theorem dX6_calls_15 : decode cX6_calls 15 = .ok (.iload_n 1, 1) := by decide +kernel
theorem dX6_calls_16 : decode cX6_calls 16 = .ok (.iload_n 3, 1) := by decide +kernel
theorem dX6_calls_17 : decode cX6_calls 17 = .ok (.iconst 0, 1) := by decide +kernel
theorem dX6_calls_18 : decode cX6_calls 18 = .ok (.invokevirtual 41, 3) := by decide +kernel
theorem dX6_calls_21 : decode cX6_calls 21 = .ok (.iconst (-1), 1) := by decide +kernel
theorem dX6_calls_22 : decode cX6_calls 22 = .ok (.if_icmp .ne 7, 3) := by decide +kernel
theorem dX6_calls_25 : decode cX6_calls 25 = .ok (.iconst 0, 1) := by decide +kernel
theorem dX6_calls_26 : decode cX6_calls 26 = .ok (.goto 4, 3) := by decide +kernel
theorem dX6_calls_29 : decode cX6_calls 29 = .ok (.iconst 1, 1) := by decide +kernel
theorem dX6_calls_30 : decode cX6_calls 30 = .ok (.iadd, 1) := by decide +kernel
theorem dX6_calls_31 : decode cX6_calls 31 = .ok (.istore_n 2, 1) := by decide +kernel
theorem dX6_calls_32 : decode cX6_calls 32 = .ok (.iinc 3 1, 3) := by decide +kernel
theorem dX6_calls_35 : decode cX6_calls 35 = .ok (.goto (-31), 3) := by decide +kernel
theorem dX6_calls_38 : decode cX6_calls 38 = .ok (.iload_n 2, 1) := by decide +kernel
theorem dX6_calls_39 : decode cX6_calls 39 = .ok (.ireturn, 1) := by decide +kernel
set_option maxRecDepth 20000 in
theorem ggX6_inletTo_X6_lines : GoodIn wsX6_inletTo wsX6_lines := goodIn_r _ [5, 6, 11, 12, 13, 14, 15, 16, 17, 18, 19, 20, 21, 22] (by decide +kernel) (by decide +kernel)
set_option maxRecDepth 20000 in
theorem gX6_inletTo_X6_lines : GoodIn wsX6_inletTo (wsV RX6 30 RX6 yX6_lines wsX6_lines) := goodIn_app (goodIn_of _ (by decide +kernel)) ggX6_inletTo_X6_lines
set_option maxRecDepth 20000 in
theorem ggX6_inletTo_X6_of : GoodIn wsX6_inletTo wsX6_of := goodIn_r _ [10, 6, 11, 12, 13, 14, 15, 16, 17, 18, 19, 20, 21, 22] (by decide +kernel) (by decide +kernel)
set_option maxRecDepth 20000 in
theorem gX6_inletTo_X6_of : GoodIn wsX6_inletTo (wsV RX6 41 RX6 yX6_of wsX6_of) := goodIn_app (goodIn_of _ (by decide +kernel)) ggX6_inletTo_X6_of
theorem dX6_inletTo_0 : decode cX6_inletTo 0 = .ok (.iconst 0, 1) := by decide +kernel
theorem dX6_inletTo_1 : decode cX6_inletTo 1 = .ok (.istore_n 3, 1) := by decide +kernel
theorem dX6_inletTo_2 : decode cX6_inletTo 2 = .ok (.iload_n 3, 1) := by decide +kernel
theorem dX6_inletTo_3 : decode cX6_inletTo 3 = .ok (.aload_n 0, 1) := by decide +kernel
theorem dX6_inletTo_4 : decode cX6_inletTo 4 = .ok (.iload_n 1, 1) := by decide +kernel
theorem dX6_inletTo_5 : decode cX6_inletTo 5 = .ok (.invokevirtual 30, 3) := by decide +kernel
theorem dX6_inletTo_8 : decode cX6_inletTo 8 = .ok (.if_icmp .ge 33, 3) := by decide +kernel
theorem dX6_inletTo_11 : decode cX6_inletTo 11 = .ok (.aload_n 0, 1) := by decide +kernel
theorem dX6_inletTo_12 : decode cX6_inletTo 12 = .ok (.iload_n 1, 1) := by decide +kernel
theorem dX6_inletTo_13 : decode cX6_inletTo 13 = .ok (.iload_n 3, 1) := by decide +kernel
theorem dX6_inletTo_14 : decode cX6_inletTo 14 = .ok (.iconst 0, 1) := by decide +kernel
theorem dX6_inletTo_15 : decode cX6_inletTo 15 = .ok (.invokevirtual 41, 3) := by decide +kernel
theorem dX6_inletTo_18 : decode cX6_inletTo 18 = .ok (.iconst (-1), 1) := by decide +kernel
theorem dX6_inletTo_19 : decode cX6_inletTo 19 = .ok (.if_icmp .eq 16, 3) := by decide +kernel
theorem dX6_inletTo_22 : decode cX6_inletTo 22 = .ok (.aload_n 0, 1) := by decide +kernel
theorem dX6_inletTo_23 : decode cX6_inletTo 23 = .ok (.iload_n 1, 1) := by decide +kernel
theorem dX6_inletTo_24 : decode cX6_inletTo 24 = .ok (.iload_n 3, 1) := by decide +kernel
theorem dX6_inletTo_25 : decode cX6_inletTo 25 = .ok (.iconst 1, 1) := by decide +kernel
theorem dX6_inletTo_26 : decode cX6_inletTo 26 = .ok (.invokevirtual 41, 3) := by decide +kernel
theorem dX6_inletTo_29 : decode cX6_inletTo 29 = .ok (.iload_n 2, 1) := by decide +kernel
theorem dX6_inletTo_30 : decode cX6_inletTo 30 = .ok (.if_icmp .ne 5, 3) := by decide +kernel
theorem dX6_inletTo_33 : decode cX6_inletTo 33 = .ok (.iload_n 3, 1) := by decide +kernel
theorem dX6_inletTo_34 : decode cX6_inletTo 34 = .ok (.ireturn, 1) := by decide +kernel
theorem dX6_inletTo_35 : decode cX6_inletTo 35 = .ok (.iinc 3 1, 3) := by decide +kernel
theorem dX6_inletTo_38 : decode cX6_inletTo 38 = .ok (.goto (-36), 3) := by decide +kernel
theorem dX6_inletTo_41 : decode cX6_inletTo 41 = .ok (.iconst (-1), 1) := by decide +kernel
theorem dX6_inletTo_42 : decode cX6_inletTo 42 = .ok (.ireturn, 1) := by decide +kernel
set_option maxRecDepth 20000 in
theorem ggX6_onFirst_X6_lines : GoodIn wsX6_onFirst wsX6_lines := goodIn_r _ [6, 1, 11, 12, 13, 14, 15, 16, 17, 18, 19, 20, 21, 22] (by decide +kernel) (by decide +kernel)
set_option maxRecDepth 20000 in
theorem gX6_onFirst_X6_lines : GoodIn wsX6_onFirst (wsV RX6 30 RX6 yX6_lines wsX6_lines) := goodIn_app (goodIn_of _ (by decide +kernel)) ggX6_onFirst_X6_lines
set_option maxRecDepth 20000 in
theorem ggX6_onFirst_X6_of : GoodIn wsX6_onFirst wsX6_of := goodIn_r _ [10, 1, 11, 12, 13, 14, 15, 16, 17, 18, 19, 20, 21, 22] (by decide +kernel) (by decide +kernel)
set_option maxRecDepth 20000 in
theorem gX6_onFirst_X6_of : GoodIn wsX6_onFirst (wsV RX6 41 RX6 yX6_of wsX6_of) := goodIn_app (goodIn_of _ (by decide +kernel)) ggX6_onFirst_X6_of
theorem dX6_onFirst_0 : decode cX6_onFirst 0 = .ok (.iconst 0, 1) := by decide +kernel
theorem dX6_onFirst_1 : decode cX6_onFirst 1 = .ok (.istore 4, 2) := by decide +kernel
theorem dX6_onFirst_3 : decode cX6_onFirst 3 = .ok (.iload 4, 2) := by decide +kernel
theorem dX6_onFirst_5 : decode cX6_onFirst 5 = .ok (.aload_n 0, 1) := by decide +kernel
theorem dX6_onFirst_6 : decode cX6_onFirst 6 = .ok (.iload_n 1, 1) := by decide +kernel
theorem dX6_onFirst_7 : decode cX6_onFirst 7 = .ok (.invokevirtual 30, 3) := by decide +kernel
theorem dX6_onFirst_10 : decode cX6_onFirst 10 = .ok (.if_icmp .ge 51, 3) := by decide +kernel
theorem dX6_onFirst_13 : decode cX6_onFirst 13 = .ok (.aload_n 0, 1) := by decide +kernel
theorem dX6_onFirst_14 : decode cX6_onFirst 14 = .ok (.iload_n 1, 1) := by decide +kernel
theorem dX6_onFirst_15 : decode cX6_onFirst 15 = .ok (.iload 4, 2) := by decide +kernel
theorem dX6_onFirst_17 : decode cX6_onFirst 17 = .ok (.iconst 0, 1) := by decide +kernel
theorem dX6_onFirst_18 : decode cX6_onFirst 18 = .ok (.invokevirtual 41, 3) := by decide +kernel
theorem dX6_onFirst_21 : decode cX6_onFirst 21 = .ok (.iconst (-1), 1) := by decide +kernel
theorem dX6_onFirst_22 : decode cX6_onFirst 22 = .ok (.if_icmp .eq 33, 3) := by decide +kernel
theorem dX6_onFirst_25 : decode cX6_onFirst 25 = .ok (.aload_n 0, 1) := by decide +kernel
theorem dX6_onFirst_26 : decode cX6_onFirst 26 = .ok (.iload_n 1, 1) := by decide +kernel
theorem dX6_onFirst_27 : decode cX6_onFirst 27 = .ok (.iload 4, 2) := by decide +kernel
theorem dX6_onFirst_29 : decode cX6_onFirst 29 = .ok (.iconst 2, 1) := by decide +kernel
theorem dX6_onFirst_30 : decode cX6_onFirst 30 = .ok (.invokevirtual 41, 3) := by decide +kernel
theorem dX6_onFirst_33 : decode cX6_onFirst 33 = .ok (.iload_n 3, 1) := by decide +kernel
theorem dX6_onFirst_34 : decode cX6_onFirst 34 = .ok (.if_icmp .ne 21, 3) := by decide +kernel
theorem dX6_onFirst_37 : decode cX6_onFirst 37 = .ok (.iload 4, 2) := by decide +kernel
theorem dX6_onFirst_39 : decode cX6_onFirst 39 = .ok (.aload_n 0, 1) := by decide +kernel
theorem dX6_onFirst_40 : decode cX6_onFirst 40 = .ok (.getfield 7, 3) := by decide +kernel
theorem dX6_onFirst_43 : decode cX6_onFirst 43 = .ok (.iload_n 1, 1) := by decide +kernel
theorem dX6_onFirst_44 : decode cX6_onFirst 44 = .ok (.iconst 1, 1) := by decide +kernel
theorem dX6_onFirst_45 : decode cX6_onFirst 45 = .ok (.iadd, 1) := by decide +kernel
theorem dX6_onFirst_46 : decode cX6_onFirst 46 = .ok (.iaload, 1) := by decide +kernel
theorem dX6_onFirst_47 : decode cX6_onFirst 47 = .ok (.idiv, 1) := by decide +kernel
theorem dX6_onFirst_48 : decode cX6_onFirst 48 = .ok (.iload_n 2, 1) := by decide +kernel
theorem dX6_onFirst_49 : decode cX6_onFirst 49 = .ok (.if_icmp .ne 6, 3) := by decide +kernel
theorem dX6_onFirst_52 : decode cX6_onFirst 52 = .ok (.iload 4, 2) := by decide +kernel
theorem dX6_onFirst_54 : decode cX6_onFirst 54 = .ok (.ireturn, 1) := by decide +kernel
theorem dX6_onFirst_55 : decode cX6_onFirst 55 = .ok (.iinc 4 1, 3) := by decide +kernel
theorem dX6_onFirst_58 : decode cX6_onFirst 58 = .ok (.goto (-55), 3) := by decide +kernel
theorem dX6_onFirst_61 : decode cX6_onFirst 61 = .ok (.iconst (-1), 1) := by decide +kernel
theorem dX6_onFirst_62 : decode cX6_onFirst 62 = .ok (.ireturn, 1) := by decide +kernel
set_option maxRecDepth 20000 in
theorem ggX6_onLast_X6_lines : GoodIn wsX6_onLast wsX6_lines := goodIn_r _ [6, 1, 11, 12, 13, 14, 15, 16, 17, 18, 19, 20, 21, 22] (by decide +kernel) (by decide +kernel)
set_option maxRecDepth 20000 in
theorem gX6_onLast_X6_lines : GoodIn wsX6_onLast (wsV RX6 30 RX6 yX6_lines wsX6_lines) := goodIn_app (goodIn_of _ (by decide +kernel)) ggX6_onLast_X6_lines
set_option maxRecDepth 20000 in
theorem ggX6_onLast_X6_of : GoodIn wsX6_onLast wsX6_of := goodIn_r _ [10, 1, 11, 12, 13, 14, 15, 16, 17, 18, 19, 20, 21, 22] (by decide +kernel) (by decide +kernel)
set_option maxRecDepth 20000 in
theorem gX6_onLast_X6_of : GoodIn wsX6_onLast (wsV RX6 41 RX6 yX6_of wsX6_of) := goodIn_app (goodIn_of _ (by decide +kernel)) ggX6_onLast_X6_of
theorem dX6_onLast_0 : decode cX6_onLast 0 = .ok (.iconst 0, 1) := by decide +kernel
theorem dX6_onLast_1 : decode cX6_onLast 1 = .ok (.istore 4, 2) := by decide +kernel
theorem dX6_onLast_3 : decode cX6_onLast 3 = .ok (.iload 4, 2) := by decide +kernel
theorem dX6_onLast_5 : decode cX6_onLast 5 = .ok (.aload_n 0, 1) := by decide +kernel
theorem dX6_onLast_6 : decode cX6_onLast 6 = .ok (.iload_n 1, 1) := by decide +kernel
theorem dX6_onLast_7 : decode cX6_onLast 7 = .ok (.invokevirtual 30, 3) := by decide +kernel
theorem dX6_onLast_10 : decode cX6_onLast 10 = .ok (.if_icmp .ge 57, 3) := by decide +kernel
theorem dX6_onLast_13 : decode cX6_onLast 13 = .ok (.aload_n 0, 1) := by decide +kernel
theorem dX6_onLast_14 : decode cX6_onLast 14 = .ok (.iload_n 1, 1) := by decide +kernel
theorem dX6_onLast_15 : decode cX6_onLast 15 = .ok (.iload 4, 2) := by decide +kernel
theorem dX6_onLast_17 : decode cX6_onLast 17 = .ok (.iconst 0, 1) := by decide +kernel
theorem dX6_onLast_18 : decode cX6_onLast 18 = .ok (.invokevirtual 41, 3) := by decide +kernel
theorem dX6_onLast_21 : decode cX6_onLast 21 = .ok (.iconst (-1), 1) := by decide +kernel
theorem dX6_onLast_22 : decode cX6_onLast 22 = .ok (.if_icmp .eq 39, 3) := by decide +kernel
theorem dX6_onLast_25 : decode cX6_onLast 25 = .ok (.aload_n 0, 1) := by decide +kernel
theorem dX6_onLast_26 : decode cX6_onLast 26 = .ok (.iload_n 1, 1) := by decide +kernel
theorem dX6_onLast_27 : decode cX6_onLast 27 = .ok (.iload 4, 2) := by decide +kernel
theorem dX6_onLast_29 : decode cX6_onLast 29 = .ok (.iconst 2, 1) := by decide +kernel
theorem dX6_onLast_30 : decode cX6_onLast 30 = .ok (.invokevirtual 41, 3) := by decide +kernel
theorem dX6_onLast_33 : decode cX6_onLast 33 = .ok (.iload_n 2, 1) := by decide +kernel
theorem dX6_onLast_34 : decode cX6_onLast 34 = .ok (.if_icmp .ne 27, 3) := by decide +kernel
theorem dX6_onLast_37 : decode cX6_onLast 37 = .ok (.aload_n 0, 1) := by decide +kernel
theorem dX6_onLast_38 : decode cX6_onLast 38 = .ok (.iload_n 1, 1) := by decide +kernel
theorem dX6_onLast_39 : decode cX6_onLast 39 = .ok (.iload 4, 2) := by decide +kernel
theorem dX6_onLast_41 : decode cX6_onLast 41 = .ok (.iconst 1, 1) := by decide +kernel
theorem dX6_onLast_42 : decode cX6_onLast 42 = .ok (.invokevirtual 41, 3) := by decide +kernel
theorem dX6_onLast_45 : decode cX6_onLast 45 = .ok (.aload_n 0, 1) := by decide +kernel
theorem dX6_onLast_46 : decode cX6_onLast 46 = .ok (.getfield 7, 3) := by decide +kernel
theorem dX6_onLast_49 : decode cX6_onLast 49 = .ok (.iload_n 1, 1) := by decide +kernel
theorem dX6_onLast_50 : decode cX6_onLast 50 = .ok (.iconst 1, 1) := by decide +kernel
theorem dX6_onLast_51 : decode cX6_onLast 51 = .ok (.iadd, 1) := by decide +kernel
theorem dX6_onLast_52 : decode cX6_onLast 52 = .ok (.iaload, 1) := by decide +kernel
theorem dX6_onLast_53 : decode cX6_onLast 53 = .ok (.idiv, 1) := by decide +kernel
theorem dX6_onLast_54 : decode cX6_onLast 54 = .ok (.iload_n 3, 1) := by decide +kernel
theorem dX6_onLast_55 : decode cX6_onLast 55 = .ok (.if_icmp .ne 6, 3) := by decide +kernel
theorem dX6_onLast_58 : decode cX6_onLast 58 = .ok (.iload 4, 2) := by decide +kernel
theorem dX6_onLast_60 : decode cX6_onLast 60 = .ok (.ireturn, 1) := by decide +kernel
theorem dX6_onLast_61 : decode cX6_onLast 61 = .ok (.iinc 4 1, 3) := by decide +kernel
theorem dX6_onLast_64 : decode cX6_onLast 64 = .ok (.goto (-61), 3) := by decide +kernel
theorem dX6_onLast_67 : decode cX6_onLast 67 = .ok (.iconst (-1), 1) := by decide +kernel
theorem dX6_onLast_68 : decode cX6_onLast 68 = .ok (.ireturn, 1) := by decide +kernel
set_option maxRecDepth 20000 in
theorem ggX6_loadOf_X6_lines : GoodIn wsX6_loadOf wsX6_lines := goodIn_r _ [5, 6, 11, 12, 13, 14, 15, 16, 17, 18, 19, 20, 21, 22] (by decide +kernel) (by decide +kernel)
set_option maxRecDepth 20000 in
theorem gX6_loadOf_X6_lines : GoodIn wsX6_loadOf (wsV RX6 30 RX6 yX6_lines wsX6_lines) := goodIn_app (goodIn_of _ (by decide +kernel)) ggX6_loadOf_X6_lines
set_option maxRecDepth 20000 in
theorem ggX6_loadOf_X6_of : GoodIn wsX6_loadOf wsX6_of := goodIn_r _ [10, 6, 11, 12, 13, 14, 15, 16, 17, 18, 19, 20, 21, 22] (by decide +kernel) (by decide +kernel)
set_option maxRecDepth 20000 in
theorem gX6_loadOf_X6_of : GoodIn wsX6_loadOf (wsV RX6 41 RX6 yX6_of wsX6_of) := goodIn_app (goodIn_of _ (by decide +kernel)) ggX6_loadOf_X6_of
theorem dX6_loadOf_0 : decode cX6_loadOf 0 = .ok (.iconst 0, 1) := by decide +kernel
theorem dX6_loadOf_1 : decode cX6_loadOf 1 = .ok (.istore_n 3, 1) := by decide +kernel
theorem dX6_loadOf_2 : decode cX6_loadOf 2 = .ok (.iconst 0, 1) := by decide +kernel
theorem dX6_loadOf_3 : decode cX6_loadOf 3 = .ok (.istore 4, 2) := by decide +kernel
theorem dX6_loadOf_5 : decode cX6_loadOf 5 = .ok (.iload 4, 2) := by decide +kernel
theorem dX6_loadOf_7 : decode cX6_loadOf 7 = .ok (.aload_n 0, 1) := by decide +kernel
theorem dX6_loadOf_8 : decode cX6_loadOf 8 = .ok (.iload_n 1, 1) := by decide +kernel
theorem dX6_loadOf_9 : decode cX6_loadOf 9 = .ok (.invokevirtual 30, 3) := by decide +kernel
theorem dX6_loadOf_12 : decode cX6_loadOf 12 = .ok (.if_icmp .ge 41, 3) := by decide +kernel
theorem dX6_loadOf_15 : decode cX6_loadOf 15 = .ok (.iload_n 3, 1) := by decide +kernel
theorem dX6_loadOf_16 : decode cX6_loadOf 16 = .ok (.aload_n 0, 1) := by decide +kernel
theorem dX6_loadOf_17 : decode cX6_loadOf 17 = .ok (.iload_n 1, 1) := by decide +kernel
theorem dX6_loadOf_18 : decode cX6_loadOf 18 = .ok (.iload 4, 2) := by decide +kernel
theorem dX6_loadOf_20 : decode cX6_loadOf 20 = .ok (.iconst 0, 1) := by decide +kernel
theorem dX6_loadOf_21 : decode cX6_loadOf 21 = .ok (.invokevirtual 41, 3) := by decide +kernel
theorem dX6_loadOf_24 : decode cX6_loadOf 24 = .ok (.iconst (-1), 1) := by decide +kernel
theorem dX6_loadOf_25 : decode cX6_loadOf 25 = .ok (.if_icmp .eq 19, 3) := by decide +kernel
theorem dX6_loadOf_28 : decode cX6_loadOf 28 = .ok (.aload_n 0, 1) := by decide +kernel
theorem dX6_loadOf_29 : decode cX6_loadOf 29 = .ok (.iload_n 1, 1) := by decide +kernel
theorem dX6_loadOf_30 : decode cX6_loadOf 30 = .ok (.iload 4, 2) := by decide +kernel
theorem dX6_loadOf_32 : decode cX6_loadOf 32 = .ok (.iconst 2, 1) := by decide +kernel
theorem dX6_loadOf_33 : decode cX6_loadOf 33 = .ok (.invokevirtual 41, 3) := by decide +kernel
theorem dX6_loadOf_36 : decode cX6_loadOf 36 = .ok (.iload_n 2, 1) := by decide +kernel
theorem dX6_loadOf_37 : decode cX6_loadOf 37 = .ok (.if_icmp .ne 7, 3) := by decide +kernel
theorem dX6_loadOf_40 : decode cX6_loadOf 40 = .ok (.iconst 1, 1) := by decide +kernel
theorem dX6_loadOf_41 : decode cX6_loadOf 41 = .ok (.goto 4, 3) := by decide +kernel
theorem dX6_loadOf_44 : decode cX6_loadOf 44 = .ok (.iconst 0, 1) := by decide +kernel
theorem dX6_loadOf_45 : decode cX6_loadOf 45 = .ok (.iadd, 1) := by decide +kernel
theorem dX6_loadOf_46 : decode cX6_loadOf 46 = .ok (.istore_n 3, 1) := by decide +kernel
theorem dX6_loadOf_47 : decode cX6_loadOf 47 = .ok (.iinc 4 1, 3) := by decide +kernel
theorem dX6_loadOf_50 : decode cX6_loadOf 50 = .ok (.goto (-45), 3) := by decide +kernel
theorem dX6_loadOf_53 : decode cX6_loadOf 53 = .ok (.iload_n 3, 1) := by decide +kernel
theorem dX6_loadOf_54 : decode cX6_loadOf 54 = .ok (.ireturn, 1) := by decide +kernel
set_option maxRecDepth 20000 in
theorem ggX6_freeAhead_X6_has : GoodIn wsX6_freeAhead wsX6_has := goodIn_r _ [5] (by decide +kernel) (by decide +kernel)
set_option maxRecDepth 20000 in
theorem gX6_freeAhead_X6_has : GoodIn wsX6_freeAhead (va_wsS RX6 26 yX6_has wsX6_has) := goodIn_app (goodIn_of _ (by decide +kernel)) ggX6_freeAhead_X6_has
set_option maxRecDepth 20000 in
theorem ggX6_freeAhead_X6_onFirst : GoodIn wsX6_freeAhead wsX6_onFirst := goodIn_r _ [9, 1, 10, 11, 12, 4, 13, 14, 15, 16, 17, 18, 19, 20, 21, 22, 23, 24, 25, 26, 27, 28, 29] (by decide +kernel) (by decide +kernel)
set_option maxRecDepth 20000 in
theorem gX6_freeAhead_X6_onFirst : GoodIn wsX6_freeAhead (wsV RX6 45 RX6 yX6_onFirst wsX6_onFirst) := goodIn_app (goodIn_of _ (by decide +kernel)) ggX6_freeAhead_X6_onFirst
theorem dX6_freeAhead_0 : decode cX6_freeAhead 0 = .ok (.iconst 0, 1) := by decide +kernel
theorem dX6_freeAhead_1 : decode cX6_freeAhead 1 = .ok (.istore_n 3, 1) := by decide +kernel
theorem dX6_freeAhead_2 : decode cX6_freeAhead 2 = .ok (.iconst 0, 1) := by decide +kernel
theorem dX6_freeAhead_3 : decode cX6_freeAhead 3 = .ok (.istore 4, 2) := by decide +kernel
theorem dX6_freeAhead_5 : decode cX6_freeAhead 5 = .ok (.iload 4, 2) := by decide +kernel
theorem dX6_freeAhead_7 : decode cX6_freeAhead 7 = .ok (.aload_n 0, 1) := by decide +kernel
theorem dX6_freeAhead_8 : decode cX6_freeAhead 8 = .ok (.getfield 7, 3) := by decide +kernel
theorem dX6_freeAhead_11 : decode cX6_freeAhead 11 = .ok (.iload_n 1, 1) := by decide +kernel
theorem dX6_freeAhead_12 : decode cX6_freeAhead 12 = .ok (.iconst 2, 1) := by decide +kernel
theorem dX6_freeAhead_13 : decode cX6_freeAhead 13 = .ok (.iadd, 1) := by decide +kernel
theorem dX6_freeAhead_14 : decode cX6_freeAhead 14 = .ok (.iaload, 1) := by decide +kernel
theorem dX6_freeAhead_15 : decode cX6_freeAhead 15 = .ok (.if_icmp .ge 49, 3) := by decide +kernel
theorem dX6_freeAhead_18 : decode cX6_freeAhead 18 = .ok (.iload_n 3, 1) := by decide +kernel
theorem dX6_freeAhead_19 : decode cX6_freeAhead 19 = .ok (.aload_n 0, 1) := by decide +kernel
theorem dX6_freeAhead_20 : decode cX6_freeAhead 20 = .ok (.getfield 7, 3) := by decide +kernel
theorem dX6_freeAhead_23 : decode cX6_freeAhead 23 = .ok (.iload_n 1, 1) := by decide +kernel
theorem dX6_freeAhead_24 : decode cX6_freeAhead 24 = .ok (.bipush 9, 2) := by decide +kernel
theorem dX6_freeAhead_26 : decode cX6_freeAhead 26 = .ok (.iadd, 1) := by decide +kernel
theorem dX6_freeAhead_27 : decode cX6_freeAhead 27 = .ok (.iaload, 1) := by decide +kernel
theorem dX6_freeAhead_28 : decode cX6_freeAhead 28 = .ok (.iload 4, 2) := by decide +kernel
theorem dX6_freeAhead_30 : decode cX6_freeAhead 30 = .ok (.invokestatic 26, 3) := by decide +kernel
theorem dX6_freeAhead_33 : decode cX6_freeAhead 33 = .ok (.ifCond .eq 22, 3) := by decide +kernel
theorem dX6_freeAhead_36 : decode cX6_freeAhead 36 = .ok (.aload_n 0, 1) := by decide +kernel
theorem dX6_freeAhead_37 : decode cX6_freeAhead 37 = .ok (.iload_n 1, 1) := by decide +kernel
theorem dX6_freeAhead_38 : decode cX6_freeAhead 38 = .ok (.iload_n 2, 1) := by decide +kernel
theorem dX6_freeAhead_39 : decode cX6_freeAhead 39 = .ok (.iload 4, 2) := by decide +kernel
theorem dX6_freeAhead_41 : decode cX6_freeAhead 41 = .ok (.invokevirtual 45, 3) := by decide +kernel
theorem dX6_freeAhead_44 : decode cX6_freeAhead 44 = .ok (.iconst (-1), 1) := by decide +kernel
theorem dX6_freeAhead_45 : decode cX6_freeAhead 45 = .ok (.if_icmp .ne 10, 3) := by decide +kernel
theorem dX6_freeAhead_48 : decode cX6_freeAhead 48 = .ok (.iconst 1, 1) := by decide +kernel
theorem dX6_freeAhead_49 : decode cX6_freeAhead 49 = .ok (.iload 4, 2) := by decide +kernel
theorem dX6_freeAhead_51 : decode cX6_freeAhead 51 = .ok (.ishl, 1) := by decide +kernel
theorem dX6_freeAhead_52 : decode cX6_freeAhead 52 = .ok (.goto 4, 3) := by decide +kernel
theorem dX6_freeAhead_55 : decode cX6_freeAhead 55 = .ok (.iconst 0, 1) := by decide +kernel
theorem dX6_freeAhead_56 : decode cX6_freeAhead 56 = .ok (.ior, 1) := by decide +kernel
theorem dX6_freeAhead_57 : decode cX6_freeAhead 57 = .ok (.istore_n 3, 1) := by decide +kernel
theorem dX6_freeAhead_58 : decode cX6_freeAhead 58 = .ok (.iinc 4 1, 3) := by decide +kernel
theorem dX6_freeAhead_61 : decode cX6_freeAhead 61 = .ok (.goto (-56), 3) := by decide +kernel
theorem dX6_freeAhead_64 : decode cX6_freeAhead 64 = .ok (.iload_n 3, 1) := by decide +kernel
theorem dX6_freeAhead_65 : decode cX6_freeAhead 65 = .ok (.ireturn, 1) := by decide +kernel
set_option maxRecDepth 20000 in
theorem ggX6_freeBehind_X6_has : GoodIn wsX6_freeBehind wsX6_has := goodIn_r _ [5] (by decide +kernel) (by decide +kernel)
set_option maxRecDepth 20000 in
theorem gX6_freeBehind_X6_has : GoodIn wsX6_freeBehind (va_wsS RX6 26 yX6_has wsX6_has) := goodIn_app (goodIn_of _ (by decide +kernel)) ggX6_freeBehind_X6_has
set_option maxRecDepth 20000 in
theorem ggX6_freeBehind_X6_onLast : GoodIn wsX6_freeBehind wsX6_onLast := goodIn_r _ [9, 1, 10, 11, 12, 4, 13, 14, 15, 16, 17, 18, 19, 20, 21, 22, 23, 24, 25, 26, 27, 28, 29] (by decide +kernel) (by decide +kernel)
set_option maxRecDepth 20000 in
theorem gX6_freeBehind_X6_onLast : GoodIn wsX6_freeBehind (wsV RX6 48 RX6 yX6_onLast wsX6_onLast) := goodIn_app (goodIn_of _ (by decide +kernel)) ggX6_freeBehind_X6_onLast
theorem dX6_freeBehind_0 : decode cX6_freeBehind 0 = .ok (.iconst 0, 1) := by decide +kernel
theorem dX6_freeBehind_1 : decode cX6_freeBehind 1 = .ok (.istore_n 3, 1) := by decide +kernel
theorem dX6_freeBehind_2 : decode cX6_freeBehind 2 = .ok (.iconst 0, 1) := by decide +kernel
theorem dX6_freeBehind_3 : decode cX6_freeBehind 3 = .ok (.istore 4, 2) := by decide +kernel
theorem dX6_freeBehind_5 : decode cX6_freeBehind 5 = .ok (.iload 4, 2) := by decide +kernel
theorem dX6_freeBehind_7 : decode cX6_freeBehind 7 = .ok (.aload_n 0, 1) := by decide +kernel
theorem dX6_freeBehind_8 : decode cX6_freeBehind 8 = .ok (.getfield 7, 3) := by decide +kernel
theorem dX6_freeBehind_11 : decode cX6_freeBehind 11 = .ok (.iload_n 1, 1) := by decide +kernel
theorem dX6_freeBehind_12 : decode cX6_freeBehind 12 = .ok (.iconst 2, 1) := by decide +kernel
theorem dX6_freeBehind_13 : decode cX6_freeBehind 13 = .ok (.iadd, 1) := by decide +kernel
theorem dX6_freeBehind_14 : decode cX6_freeBehind 14 = .ok (.iaload, 1) := by decide +kernel
theorem dX6_freeBehind_15 : decode cX6_freeBehind 15 = .ok (.if_icmp .ge 49, 3) := by decide +kernel
theorem dX6_freeBehind_18 : decode cX6_freeBehind 18 = .ok (.iload_n 3, 1) := by decide +kernel
theorem dX6_freeBehind_19 : decode cX6_freeBehind 19 = .ok (.aload_n 0, 1) := by decide +kernel
theorem dX6_freeBehind_20 : decode cX6_freeBehind 20 = .ok (.getfield 7, 3) := by decide +kernel
theorem dX6_freeBehind_23 : decode cX6_freeBehind 23 = .ok (.iload_n 1, 1) := by decide +kernel
theorem dX6_freeBehind_24 : decode cX6_freeBehind 24 = .ok (.bipush 9, 2) := by decide +kernel
theorem dX6_freeBehind_26 : decode cX6_freeBehind 26 = .ok (.iadd, 1) := by decide +kernel
theorem dX6_freeBehind_27 : decode cX6_freeBehind 27 = .ok (.iaload, 1) := by decide +kernel
theorem dX6_freeBehind_28 : decode cX6_freeBehind 28 = .ok (.iload 4, 2) := by decide +kernel
theorem dX6_freeBehind_30 : decode cX6_freeBehind 30 = .ok (.invokestatic 26, 3) := by decide +kernel
theorem dX6_freeBehind_33 : decode cX6_freeBehind 33 = .ok (.ifCond .eq 22, 3) := by decide +kernel
theorem dX6_freeBehind_36 : decode cX6_freeBehind 36 = .ok (.aload_n 0, 1) := by decide +kernel
theorem dX6_freeBehind_37 : decode cX6_freeBehind 37 = .ok (.iload_n 1, 1) := by decide +kernel
theorem dX6_freeBehind_38 : decode cX6_freeBehind 38 = .ok (.iload 4, 2) := by decide +kernel
theorem dX6_freeBehind_40 : decode cX6_freeBehind 40 = .ok (.iload_n 2, 1) := by decide +kernel
theorem dX6_freeBehind_41 : decode cX6_freeBehind 41 = .ok (.invokevirtual 48, 3) := by decide +kernel
theorem dX6_freeBehind_44 : decode cX6_freeBehind 44 = .ok (.iconst (-1), 1) := by decide +kernel
theorem dX6_freeBehind_45 : decode cX6_freeBehind 45 = .ok (.if_icmp .ne 10, 3) := by decide +kernel
theorem dX6_freeBehind_48 : decode cX6_freeBehind 48 = .ok (.iconst 1, 1) := by decide +kernel
theorem dX6_freeBehind_49 : decode cX6_freeBehind 49 = .ok (.iload 4, 2) := by decide +kernel
theorem dX6_freeBehind_51 : decode cX6_freeBehind 51 = .ok (.ishl, 1) := by decide +kernel
theorem dX6_freeBehind_52 : decode cX6_freeBehind 52 = .ok (.goto 4, 3) := by decide +kernel
theorem dX6_freeBehind_55 : decode cX6_freeBehind 55 = .ok (.iconst 0, 1) := by decide +kernel
theorem dX6_freeBehind_56 : decode cX6_freeBehind 56 = .ok (.ior, 1) := by decide +kernel
theorem dX6_freeBehind_57 : decode cX6_freeBehind 57 = .ok (.istore_n 3, 1) := by decide +kernel
theorem dX6_freeBehind_58 : decode cX6_freeBehind 58 = .ok (.iinc 4 1, 3) := by decide +kernel
theorem dX6_freeBehind_61 : decode cX6_freeBehind 61 = .ok (.goto (-56), 3) := by decide +kernel
theorem dX6_freeBehind_64 : decode cX6_freeBehind 64 = .ok (.iload_n 3, 1) := by decide +kernel
theorem dX6_freeBehind_65 : decode cX6_freeBehind 65 = .ok (.ireturn, 1) := by decide +kernel
set_option maxRecDepth 20000 in
theorem ggX6_chosen_X6_lowest : GoodIn wsX6_chosen wsX6_lowest := goodIn_r _ [5, 6, 7, 4, 8] (by decide +kernel) (by decide +kernel)
set_option maxRecDepth 20000 in
theorem gX6_chosen_X6_lowest : GoodIn wsX6_chosen (va_wsS RX6 51 yX6_lowest wsX6_lowest) := goodIn_app (goodIn_of _ (by decide +kernel)) ggX6_chosen_X6_lowest
set_option maxRecDepth 20000 in
theorem ggX6_chosen_X6_loadOf : GoodIn wsX6_chosen wsX6_loadOf := goodIn_r _ [12, 13, 14, 15, 4, 16, 1, 17, 18, 19, 20, 21, 22, 23, 24, 25, 26, 27, 28, 29, 30, 31, 32] (by decide +kernel) (by decide +kernel)
set_option maxRecDepth 20000 in
theorem gX6_chosen_X6_loadOf : GoodIn wsX6_chosen (wsV RX6 54 RX6 yX6_loadOf wsX6_loadOf) := goodIn_app (goodIn_of _ (by decide +kernel)) ggX6_chosen_X6_loadOf
set_option maxRecDepth 20000 in
theorem ggX6_chosen_X6_has : GoodIn wsX6_chosen wsX6_has := goodIn_r _ [8] (by decide +kernel) (by decide +kernel)
set_option maxRecDepth 20000 in
theorem gX6_chosen_X6_has : GoodIn wsX6_chosen (va_wsS RX6 26 yX6_has wsX6_has) := goodIn_app (goodIn_of _ (by decide +kernel)) ggX6_chosen_X6_has
theorem dX6_chosen_0 : decode cX6_chosen 0 = .ok (.iload_n 2, 1) := by decide +kernel
theorem dX6_chosen_1 : decode cX6_chosen 1 = .ok (.invokestatic 51, 3) := by decide +kernel
theorem dX6_chosen_4 : decode cX6_chosen 4 = .ok (.istore_n 3, 1) := by decide +kernel
theorem dX6_chosen_5 : decode cX6_chosen 5 = .ok (.iload_n 3, 1) := by decide +kernel
theorem dX6_chosen_6 : decode cX6_chosen 6 = .ok (.iconst 1, 1) := by decide +kernel
theorem dX6_chosen_7 : decode cX6_chosen 7 = .ok (.iadd, 1) := by decide +kernel
theorem dX6_chosen_8 : decode cX6_chosen 8 = .ok (.istore 4, 2) := by decide +kernel
theorem dX6_chosen_10 : decode cX6_chosen 10 = .ok (.iload 4, 2) := by decide +kernel
theorem dX6_chosen_12 : decode cX6_chosen 12 = .ok (.aload_n 0, 1) := by decide +kernel
theorem dX6_chosen_13 : decode cX6_chosen 13 = .ok (.getfield 7, 3) := by decide +kernel
theorem dX6_chosen_16 : decode cX6_chosen 16 = .ok (.iload_n 1, 1) := by decide +kernel
theorem dX6_chosen_17 : decode cX6_chosen 17 = .ok (.iconst 2, 1) := by decide +kernel
theorem dX6_chosen_18 : decode cX6_chosen 18 = .ok (.iadd, 1) := by decide +kernel
theorem dX6_chosen_19 : decode cX6_chosen 19 = .ok (.iaload, 1) := by decide +kernel
theorem dX6_chosen_20 : decode cX6_chosen 20 = .ok (.if_icmp .ge 87, 3) := by decide +kernel
theorem dX6_chosen_23 : decode cX6_chosen 23 = .ok (.aload_n 0, 1) := by decide +kernel
theorem dX6_chosen_24 : decode cX6_chosen 24 = .ok (.iload_n 1, 1) := by decide +kernel
theorem dX6_chosen_25 : decode cX6_chosen 25 = .ok (.iload 4, 2) := by decide +kernel
theorem dX6_chosen_27 : decode cX6_chosen 27 = .ok (.invokevirtual 54, 3) := by decide +kernel
theorem dX6_chosen_30 : decode cX6_chosen 30 = .ok (.aload_n 0, 1) := by decide +kernel
theorem dX6_chosen_31 : decode cX6_chosen 31 = .ok (.iload_n 1, 1) := by decide +kernel
theorem dX6_chosen_32 : decode cX6_chosen 32 = .ok (.iload_n 3, 1) := by decide +kernel
theorem dX6_chosen_33 : decode cX6_chosen 33 = .ok (.invokevirtual 54, 3) := by decide +kernel
theorem dX6_chosen_36 : decode cX6_chosen 36 = .ok (.isub, 1) := by decide +kernel
theorem dX6_chosen_37 : decode cX6_chosen 37 = .ok (.istore 5, 2) := by decide +kernel
theorem dX6_chosen_39 : decode cX6_chosen 39 = .ok (.aload_n 0, 1) := by decide +kernel
theorem dX6_chosen_40 : decode cX6_chosen 40 = .ok (.getfield 7, 3) := by decide +kernel
theorem dX6_chosen_43 : decode cX6_chosen 43 = .ok (.iload_n 1, 1) := by decide +kernel
theorem dX6_chosen_44 : decode cX6_chosen 44 = .ok (.iconst 3, 1) := by decide +kernel
theorem dX6_chosen_45 : decode cX6_chosen 45 = .ok (.iadd, 1) := by decide +kernel
theorem dX6_chosen_46 : decode cX6_chosen 46 = .ok (.iaload, 1) := by decide +kernel
theorem dX6_chosen_47 : decode cX6_chosen 47 = .ok (.iconst 1, 1) := by decide +kernel
theorem dX6_chosen_48 : decode cX6_chosen 48 = .ok (.if_icmp .ne 8, 3) := by decide +kernel
theorem dX6_chosen_51 : decode cX6_chosen 51 = .ok (.iload 5, 2) := by decide +kernel
theorem dX6_chosen_53 : decode cX6_chosen 53 = .ok (.ifCond .gt 20, 3) := by decide +kernel
theorem dX6_chosen_56 : decode cX6_chosen 56 = .ok (.aload_n 0, 1) := by decide +kernel
theorem dX6_chosen_57 : decode cX6_chosen 57 = .ok (.getfield 7, 3) := by decide +kernel
theorem dX6_chosen_60 : decode cX6_chosen 60 = .ok (.iload_n 1, 1) := by decide +kernel
theorem dX6_chosen_61 : decode cX6_chosen 61 = .ok (.iconst 3, 1) := by decide +kernel
theorem dX6_chosen_62 : decode cX6_chosen 62 = .ok (.iadd, 1) := by decide +kernel
theorem dX6_chosen_63 : decode cX6_chosen 63 = .ok (.iaload, 1) := by decide +kernel
theorem dX6_chosen_64 : decode cX6_chosen 64 = .ok (.iconst 2, 1) := by decide +kernel
theorem dX6_chosen_65 : decode cX6_chosen 65 = .ok (.if_icmp .ne 12, 3) := by decide +kernel
theorem dX6_chosen_68 : decode cX6_chosen 68 = .ok (.iload 5, 2) := by decide +kernel
theorem dX6_chosen_70 : decode cX6_chosen 70 = .ok (.ifCond .ge 7, 3) := by decide +kernel
theorem dX6_chosen_73 : decode cX6_chosen 73 = .ok (.iconst 1, 1) := by decide +kernel
theorem dX6_chosen_74 : decode cX6_chosen 74 = .ok (.goto 4, 3) := by decide +kernel
theorem dX6_chosen_77 : decode cX6_chosen 77 = .ok (.iconst 0, 1) := by decide +kernel
theorem dX6_chosen_78 : decode cX6_chosen 78 = .ok (.istore 6, 2) := by decide +kernel
theorem dX6_chosen_80 : decode cX6_chosen 80 = .ok (.iload_n 2, 1) := by decide +kernel
theorem dX6_chosen_81 : decode cX6_chosen 81 = .ok (.iload 4, 2) := by decide +kernel
theorem dX6_chosen_83 : decode cX6_chosen 83 = .ok (.invokestatic 26, 3) := by decide +kernel
theorem dX6_chosen_86 : decode cX6_chosen 86 = .ok (.ifCond .eq 13, 3) := by decide +kernel
theorem dX6_chosen_89 : decode cX6_chosen 89 = .ok (.iload 6, 2) := by decide +kernel
theorem dX6_chosen_91 : decode cX6_chosen 91 = .ok (.ifCond .eq 8, 3) := by decide +kernel
theorem dX6_chosen_94 : decode cX6_chosen 94 = .ok (.iload 4, 2) := by decide +kernel
theorem dX6_chosen_96 : decode cX6_chosen 96 = .ok (.goto 4, 3) := by decide +kernel
theorem dX6_chosen_99 : decode cX6_chosen 99 = .ok (.iload_n 3, 1) := by decide +kernel
theorem dX6_chosen_100 : decode cX6_chosen 100 = .ok (.istore_n 3, 1) := by decide +kernel
theorem dX6_chosen_101 : decode cX6_chosen 101 = .ok (.iinc 4 1, 3) := by decide +kernel
theorem dX6_chosen_104 : decode cX6_chosen 104 = .ok (.goto (-94), 3) := by decide +kernel
theorem dX6_chosen_107 : decode cX6_chosen 107 = .ok (.iload_n 3, 1) := by decide +kernel
theorem dX6_chosen_108 : decode cX6_chosen 108 = .ok (.ireturn, 1) := by decide +kernel
set_option maxRecDepth 20000 in
theorem ggX6_lays_X6_onLast : GoodIn wsX6_lays wsX6_onLast := goodIn_r _ [7, 2, 8, 9, 10, 6, 11, 12, 13, 14, 15, 20, 21, 22, 23, 24, 25, 26, 27, 28, 29, 30, 31] (by decide +kernel) (by decide +kernel)
set_option maxRecDepth 20000 in
theorem gX6_lays_X6_onLast : GoodIn wsX6_lays (wsV RX6 48 RX6 yX6_onLast wsX6_onLast) := goodIn_app (goodIn_of _ (by decide +kernel)) ggX6_lays_X6_onLast
set_option maxRecDepth 20000 in
theorem ggX6_lays_X6_onFirst : GoodIn wsX6_lays wsX6_onFirst := goodIn_r _ [19, 2, 8, 9, 10, 6, 11, 12, 13, 14, 15, 20, 21, 22, 23, 24, 25, 26, 27, 28, 29, 30, 31] (by decide +kernel) (by decide +kernel)
set_option maxRecDepth 20000 in
theorem gX6_lays_X6_onFirst : GoodIn wsX6_lays (wsV RX6 45 RX6 yX6_onFirst wsX6_onFirst) := goodIn_app (goodIn_of _ (by decide +kernel)) ggX6_lays_X6_onFirst
set_option maxRecDepth 20000 in
theorem ggX6_lays_X6_of : GoodIn wsX6_lays wsX6_of := goodIn_r _ [15, 2, 20, 21, 22, 23, 24, 25, 26, 27, 28, 29, 30, 31] (by decide +kernel) (by decide +kernel)
set_option maxRecDepth 20000 in
theorem gX6_lays_X6_of : GoodIn wsX6_lays (wsV RX6 41 RX6 yX6_of wsX6_of) := goodIn_app (goodIn_of _ (by decide +kernel)) ggX6_lays_X6_of
theorem dX6_lays_0 : decode cX6_lays 0 = .ok (.iconst 0, 1) := by decide +kernel
theorem dX6_lays_1 : decode cX6_lays 1 = .ok (.istore 5, 2) := by decide +kernel
theorem dX6_lays_3 : decode cX6_lays 3 = .ok (.aload_n 0, 1) := by decide +kernel
theorem dX6_lays_4 : decode cX6_lays 4 = .ok (.iload_n 1, 1) := by decide +kernel
theorem dX6_lays_5 : decode cX6_lays 5 = .ok (.iload_n 2, 1) := by decide +kernel
theorem dX6_lays_6 : decode cX6_lays 6 = .ok (.iload 4, 2) := by decide +kernel
theorem dX6_lays_8 : decode cX6_lays 8 = .ok (.invokevirtual 48, 3) := by decide +kernel
theorem dX6_lays_11 : decode cX6_lays 11 = .ok (.istore 6, 2) := by decide +kernel
theorem dX6_lays_13 : decode cX6_lays 13 = .ok (.iconst 1, 1) := by decide +kernel
theorem dX6_lays_14 : decode cX6_lays 14 = .ok (.istore 7, 2) := by decide +kernel
theorem dX6_lays_16 : decode cX6_lays 16 = .ok (.iload 6, 2) := by decide +kernel
theorem dX6_lays_18 : decode cX6_lays 18 = .ok (.iconst (-1), 1) := by decide +kernel
theorem dX6_lays_19 : decode cX6_lays 19 = .ok (.if_icmp .eq 80, 3) := by decide +kernel
theorem dX6_lays_22 : decode cX6_lays 22 = .ok (.aload_n 0, 1) := by decide +kernel
theorem dX6_lays_23 : decode cX6_lays 23 = .ok (.getfield 16, 3) := by decide +kernel
theorem dX6_lays_26 : decode cX6_lays 26 = .ok (.iload 5, 2) := by decide +kernel
theorem dX6_lays_28 : decode cX6_lays 28 = .ok (.iload 6, 2) := by decide +kernel
theorem dX6_lays_30 : decode cX6_lays 30 = .ok (.iastore, 1) := by decide +kernel
theorem dX6_lays_31 : decode cX6_lays 31 = .ok (.iinc 5 1, 3) := by decide +kernel
theorem dX6_lays_34 : decode cX6_lays 34 = .ok (.iload 7, 2) := by decide +kernel
theorem dX6_lays_36 : decode cX6_lays 36 = .ok (.ifCond .eq 23, 3) := by decide +kernel
theorem dX6_lays_39 : decode cX6_lays 39 = .ok (.aload_n 0, 1) := by decide +kernel
theorem dX6_lays_40 : decode cX6_lays 40 = .ok (.iload_n 1, 1) := by decide +kernel
theorem dX6_lays_41 : decode cX6_lays 41 = .ok (.iload 6, 2) := by decide +kernel
theorem dX6_lays_43 : decode cX6_lays 43 = .ok (.aload_n 0, 1) := by decide +kernel
theorem dX6_lays_44 : decode cX6_lays 44 = .ok (.getfield 7, 3) := by decide +kernel
theorem dX6_lays_47 : decode cX6_lays 47 = .ok (.iload_n 1, 1) := by decide +kernel
theorem dX6_lays_48 : decode cX6_lays 48 = .ok (.iconst 1, 1) := by decide +kernel
theorem dX6_lays_49 : decode cX6_lays 49 = .ok (.iadd, 1) := by decide +kernel
theorem dX6_lays_50 : decode cX6_lays 50 = .ok (.iaload, 1) := by decide +kernel
theorem dX6_lays_51 : decode cX6_lays 51 = .ok (.idiv, 1) := by decide +kernel
theorem dX6_lays_52 : decode cX6_lays 52 = .ok (.iload_n 3, 1) := by decide +kernel
theorem dX6_lays_53 : decode cX6_lays 53 = .ok (.invokevirtual 45, 3) := by decide +kernel
theorem dX6_lays_56 : decode cX6_lays 56 = .ok (.goto 26, 3) := by decide +kernel
theorem dX6_lays_59 : decode cX6_lays 59 = .ok (.aload_n 0, 1) := by decide +kernel
theorem dX6_lays_60 : decode cX6_lays 60 = .ok (.iload_n 1, 1) := by decide +kernel
theorem dX6_lays_61 : decode cX6_lays 61 = .ok (.iload_n 2, 1) := by decide +kernel
theorem dX6_lays_62 : decode cX6_lays 62 = .ok (.aload_n 0, 1) := by decide +kernel
theorem dX6_lays_63 : decode cX6_lays 63 = .ok (.iload_n 1, 1) := by decide +kernel
theorem dX6_lays_64 : decode cX6_lays 64 = .ok (.iload 6, 2) := by decide +kernel
theorem dX6_lays_66 : decode cX6_lays 66 = .ok (.iconst 1, 1) := by decide +kernel
theorem dX6_lays_67 : decode cX6_lays 67 = .ok (.invokevirtual 41, 3) := by decide +kernel
theorem dX6_lays_70 : decode cX6_lays 70 = .ok (.aload_n 0, 1) := by decide +kernel
theorem dX6_lays_71 : decode cX6_lays 71 = .ok (.getfield 7, 3) := by decide +kernel
theorem dX6_lays_74 : decode cX6_lays 74 = .ok (.iload_n 1, 1) := by decide +kernel
theorem dX6_lays_75 : decode cX6_lays 75 = .ok (.iconst 1, 1) := by decide +kernel
theorem dX6_lays_76 : decode cX6_lays 76 = .ok (.iadd, 1) := by decide +kernel
theorem dX6_lays_77 : decode cX6_lays 77 = .ok (.iaload, 1) := by decide +kernel
theorem dX6_lays_78 : decode cX6_lays 78 = .ok (.idiv, 1) := by decide +kernel
theorem dX6_lays_79 : decode cX6_lays 79 = .ok (.invokevirtual 48, 3) := by decide +kernel
theorem dX6_lays_82 : decode cX6_lays 82 = .ok (.istore 6, 2) := by decide +kernel
theorem dX6_lays_84 : decode cX6_lays 84 = .ok (.iload 7, 2) := by decide +kernel
theorem dX6_lays_86 : decode cX6_lays 86 = .ok (.ifCond .ne 7, 3) := by decide +kernel
theorem dX6_lays_89 : decode cX6_lays 89 = .ok (.iconst 1, 1) := by decide +kernel
theorem dX6_lays_90 : decode cX6_lays 90 = .ok (.goto 4, 3) := by decide +kernel
theorem dX6_lays_93 : decode cX6_lays 93 = .ok (.iconst 0, 1) := by decide +kernel
theorem dX6_lays_94 : decode cX6_lays 94 = .ok (.istore 7, 2) := by decide +kernel
theorem dX6_lays_96 : decode cX6_lays 96 = .ok (.goto (-80), 3) := by decide +kernel
theorem dX6_lays_99 : decode cX6_lays 99 = .ok (.iload 5, 2) := by decide +kernel
theorem dX6_lays_101 : decode cX6_lays 101 = .ok (.ireturn, 1) := by decide +kernel
set_option maxRecDepth 20000 in
theorem ggX6_pairOf_X6_lowest : GoodIn wsX6_pairOf wsX6_lowest := goodIn_r _ [5, 6, 7, 4, 8] (by decide +kernel) (by decide +kernel)
set_option maxRecDepth 20000 in
theorem gX6_pairOf_X6_lowest : GoodIn wsX6_pairOf (va_wsS RX6 51 yX6_lowest wsX6_lowest) := goodIn_app (goodIn_of _ (by decide +kernel)) ggX6_pairOf_X6_lowest
set_option maxRecDepth 20000 in
theorem ggX6_pairOf_X6_has : GoodIn wsX6_pairOf wsX6_has := goodIn_r _ [8] (by decide +kernel) (by decide +kernel)
set_option maxRecDepth 20000 in
theorem gX6_pairOf_X6_has : GoodIn wsX6_pairOf (va_wsS RX6 26 yX6_has wsX6_has) := goodIn_app (goodIn_of _ (by decide +kernel)) ggX6_pairOf_X6_has
set_option maxRecDepth 20000 in
theorem ggX6_pairOf_X6_lays : GoodIn wsX6_pairOf wsX6_lays := goodIn_r _ [12, 13, 1, 14, 15, 16, 4, 17, 18, 19, 20, 21, 22, 23, 24, 25, 26, 27, 28, 29, 30, 31, 32, 33, 34, 35, 36, 37, 38, 39, 40, 41] (by decide +kernel) (by decide +kernel)
set_option maxRecDepth 20000 in
theorem gX6_pairOf_X6_lays : GoodIn wsX6_pairOf (wsV RX6 58 RX6 yX6_lays wsX6_lays) := goodIn_app (goodIn_of _ (by decide +kernel)) ggX6_pairOf_X6_lays
theorem dX6_pairOf_0 : decode cX6_pairOf 0 = .ok (.aload_n 0, 1) := by decide +kernel
theorem dX6_pairOf_1 : decode cX6_pairOf 1 = .ok (.getfield 7, 3) := by decide +kernel
theorem dX6_pairOf_4 : decode cX6_pairOf 4 = .ok (.iload_n 1, 1) := by decide +kernel
theorem dX6_pairOf_5 : decode cX6_pairOf 5 = .ok (.iconst 4, 1) := by decide +kernel
theorem dX6_pairOf_6 : decode cX6_pairOf 6 = .ok (.iadd, 1) := by decide +kernel
theorem dX6_pairOf_7 : decode cX6_pairOf 7 = .ok (.iaload, 1) := by decide +kernel
theorem dX6_pairOf_8 : decode cX6_pairOf 8 = .ok (.ifCond .ne 16, 3) := by decide +kernel
theorem dX6_pairOf_11 : decode cX6_pairOf 11 = .ok (.bipush 8, 2) := by decide +kernel
theorem dX6_pairOf_13 : decode cX6_pairOf 13 = .ok (.iload_n 2, 1) := by decide +kernel
theorem dX6_pairOf_14 : decode cX6_pairOf 14 = .ok (.invokestatic 51, 3) := by decide +kernel
theorem dX6_pairOf_17 : decode cX6_pairOf 17 = .ok (.imul, 1) := by decide +kernel
theorem dX6_pairOf_18 : decode cX6_pairOf 18 = .ok (.iload_n 3, 1) := by decide +kernel
theorem dX6_pairOf_19 : decode cX6_pairOf 19 = .ok (.invokestatic 51, 3) := by decide +kernel
theorem dX6_pairOf_22 : decode cX6_pairOf 22 = .ok (.iadd, 1) := by decide +kernel
theorem dX6_pairOf_23 : decode cX6_pairOf 23 = .ok (.ireturn, 1) := by decide +kernel
theorem dX6_pairOf_24 : decode cX6_pairOf 24 = .ok (.iconst (-1), 1) := by decide +kernel
theorem dX6_pairOf_25 : decode cX6_pairOf 25 = .ok (.istore 5, 2) := by decide +kernel
theorem dX6_pairOf_27 : decode cX6_pairOf 27 = .ok (.iconst 0, 1) := by decide +kernel
theorem dX6_pairOf_28 : decode cX6_pairOf 28 = .ok (.istore 6, 2) := by decide +kernel
theorem dX6_pairOf_30 : decode cX6_pairOf 30 = .ok (.iconst 0, 1) := by decide +kernel
theorem dX6_pairOf_31 : decode cX6_pairOf 31 = .ok (.istore 7, 2) := by decide +kernel
theorem dX6_pairOf_33 : decode cX6_pairOf 33 = .ok (.iload 7, 2) := by decide +kernel
theorem dX6_pairOf_35 : decode cX6_pairOf 35 = .ok (.bipush 64, 2) := by decide +kernel
theorem dX6_pairOf_37 : decode cX6_pairOf 37 = .ok (.if_icmp .ge 100, 3) := by decide +kernel
theorem dX6_pairOf_40 : decode cX6_pairOf 40 = .ok (.iload_n 2, 1) := by decide +kernel
theorem dX6_pairOf_41 : decode cX6_pairOf 41 = .ok (.iload 7, 2) := by decide +kernel
theorem dX6_pairOf_43 : decode cX6_pairOf 43 = .ok (.bipush 8, 2) := by decide +kernel
theorem dX6_pairOf_45 : decode cX6_pairOf 45 = .ok (.idiv, 1) := by decide +kernel
theorem dX6_pairOf_46 : decode cX6_pairOf 46 = .ok (.invokestatic 26, 3) := by decide +kernel
theorem dX6_pairOf_49 : decode cX6_pairOf 49 = .ok (.ifCond .eq 82, 3) := by decide +kernel
theorem dX6_pairOf_52 : decode cX6_pairOf 52 = .ok (.iload_n 3, 1) := by decide +kernel
theorem dX6_pairOf_53 : decode cX6_pairOf 53 = .ok (.iload 7, 2) := by decide +kernel
theorem dX6_pairOf_55 : decode cX6_pairOf 55 = .ok (.bipush 8, 2) := by decide +kernel
theorem dX6_pairOf_57 : decode cX6_pairOf 57 = .ok (.irem, 1) := by decide +kernel
theorem dX6_pairOf_58 : decode cX6_pairOf 58 = .ok (.invokestatic 26, 3) := by decide +kernel
theorem dX6_pairOf_61 : decode cX6_pairOf 61 = .ok (.ifCond .eq 70, 3) := by decide +kernel
theorem dX6_pairOf_64 : decode cX6_pairOf 64 = .ok (.aload_n 0, 1) := by decide +kernel
theorem dX6_pairOf_65 : decode cX6_pairOf 65 = .ok (.iload_n 1, 1) := by decide +kernel
theorem dX6_pairOf_66 : decode cX6_pairOf 66 = .ok (.iload 7, 2) := by decide +kernel
theorem dX6_pairOf_68 : decode cX6_pairOf 68 = .ok (.bipush 8, 2) := by decide +kernel
theorem dX6_pairOf_70 : decode cX6_pairOf 70 = .ok (.idiv, 1) := by decide +kernel
theorem dX6_pairOf_71 : decode cX6_pairOf 71 = .ok (.iload 7, 2) := by decide +kernel
theorem dX6_pairOf_73 : decode cX6_pairOf 73 = .ok (.bipush 8, 2) := by decide +kernel
theorem dX6_pairOf_75 : decode cX6_pairOf 75 = .ok (.irem, 1) := by decide +kernel
theorem dX6_pairOf_76 : decode cX6_pairOf 76 = .ok (.iload 4, 2) := by decide +kernel
theorem dX6_pairOf_78 : decode cX6_pairOf 78 = .ok (.invokevirtual 58, 3) := by decide +kernel
theorem dX6_pairOf_81 : decode cX6_pairOf 81 = .ok (.istore 8, 2) := by decide +kernel
theorem dX6_pairOf_83 : decode cX6_pairOf 83 = .ok (.iload 5, 2) := by decide +kernel
theorem dX6_pairOf_85 : decode cX6_pairOf 85 = .ok (.iconst (-1), 1) := by decide +kernel
theorem dX6_pairOf_86 : decode cX6_pairOf 86 = .ok (.if_icmp .eq 10, 3) := by decide +kernel
theorem dX6_pairOf_89 : decode cX6_pairOf 89 = .ok (.iload 8, 2) := by decide +kernel
theorem dX6_pairOf_91 : decode cX6_pairOf 91 = .ok (.iload 6, 2) := by decide +kernel
theorem dX6_pairOf_93 : decode cX6_pairOf 93 = .ok (.if_icmp .ge 7, 3) := by decide +kernel
theorem dX6_pairOf_96 : decode cX6_pairOf 96 = .ok (.iconst 1, 1) := by decide +kernel
theorem dX6_pairOf_97 : decode cX6_pairOf 97 = .ok (.goto 4, 3) := by decide +kernel
theorem dX6_pairOf_100 : decode cX6_pairOf 100 = .ok (.iconst 0, 1) := by decide +kernel
theorem dX6_pairOf_101 : decode cX6_pairOf 101 = .ok (.istore 9, 2) := by decide +kernel
theorem dX6_pairOf_103 : decode cX6_pairOf 103 = .ok (.iload 9, 2) := by decide +kernel
theorem dX6_pairOf_105 : decode cX6_pairOf 105 = .ok (.ifCond .eq 8, 3) := by decide +kernel
theorem dX6_pairOf_108 : decode cX6_pairOf 108 = .ok (.iload 7, 2) := by decide +kernel
theorem dX6_pairOf_110 : decode cX6_pairOf 110 = .ok (.goto 5, 3) := by decide +kernel
theorem dX6_pairOf_113 : decode cX6_pairOf 113 = .ok (.iload 5, 2) := by decide +kernel
theorem dX6_pairOf_115 : decode cX6_pairOf 115 = .ok (.istore 5, 2) := by decide +kernel
theorem dX6_pairOf_117 : decode cX6_pairOf 117 = .ok (.iload 9, 2) := by decide +kernel
theorem dX6_pairOf_119 : decode cX6_pairOf 119 = .ok (.ifCond .eq 8, 3) := by decide +kernel
theorem dX6_pairOf_122 : decode cX6_pairOf 122 = .ok (.iload 8, 2) := by decide +kernel
theorem dX6_pairOf_124 : decode cX6_pairOf 124 = .ok (.goto 5, 3) := by decide +kernel
theorem dX6_pairOf_127 : decode cX6_pairOf 127 = .ok (.iload 6, 2) := by decide +kernel
theorem dX6_pairOf_129 : decode cX6_pairOf 129 = .ok (.istore 6, 2) := by decide +kernel
theorem dX6_pairOf_131 : decode cX6_pairOf 131 = .ok (.iinc 7 1, 3) := by decide +kernel
theorem dX6_pairOf_134 : decode cX6_pairOf 134 = .ok (.goto (-101), 3) := by decide +kernel
theorem dX6_pairOf_137 : decode cX6_pairOf 137 = .ok (.iload 5, 2) := by decide +kernel
theorem dX6_pairOf_139 : decode cX6_pairOf 139 = .ok (.ireturn, 1) := by decide +kernel
set_option maxRecDepth 20000 in
theorem ggX6_routes_X6_of : GoodIn wsX6_routes wsX6_of := goodIn_r _ [8, 1, 55, 56, 57, 58, 59, 60, 61, 62, 63, 64, 65, 66] (by decide +kernel) (by decide +kernel)
set_option maxRecDepth 20000 in
theorem gX6_routes_X6_of : GoodIn wsX6_routes (wsV RX6 41 RX6 yX6_of wsX6_of) := goodIn_app (goodIn_of _ (by decide +kernel)) ggX6_routes_X6_of
set_option maxRecDepth 20000 in
theorem ggX6_routes_X6_freeAhead : GoodIn wsX6_routes wsX6_freeAhead := goodIn_r _ [12, 1, 13, 14, 7, 15, 16, 17, 18, 19, 20, 21, 22, 23, 4, 5, 6, 8, 55, 56, 57, 58, 59, 60, 61, 62, 63, 64, 65, 66] (by decide +kernel) (by decide +kernel)
set_option maxRecDepth 20000 in
theorem gX6_routes_X6_freeAhead : GoodIn wsX6_routes (wsV RX6 62 RX6 yX6_freeAhead wsX6_freeAhead) := goodIn_app (goodIn_of _ (by decide +kernel)) ggX6_routes_X6_freeAhead
set_option maxRecDepth 20000 in
theorem ggX6_routes_X6_freeBehind : GoodIn wsX6_routes wsX6_freeBehind := goodIn_r _ [27, 1, 13, 14, 7, 15, 28, 29, 30, 31, 20, 21, 22, 23, 4, 5, 6, 8, 55, 56, 57, 58, 59, 60, 61, 62, 63, 64, 65, 66] (by decide +kernel) (by decide +kernel)
set_option maxRecDepth 20000 in
theorem gX6_routes_X6_freeBehind : GoodIn wsX6_routes (wsV RX6 65 RX6 yX6_freeBehind wsX6_freeBehind) := goodIn_app (goodIn_of _ (by decide +kernel)) ggX6_routes_X6_freeBehind
set_option maxRecDepth 20000 in
theorem ggX6_routes_X6_chosen : GoodIn wsX6_routes wsX6_chosen := goodIn_r _ [35, 1, 36, 37, 7, 38, 13, 14, 15, 39, 40, 41, 42, 20, 21, 22, 23, 4, 5, 6, 8, 55, 56, 57, 58, 59, 60, 61, 62, 63, 64, 65, 66] (by decide +kernel) (by decide +kernel)
set_option maxRecDepth 20000 in
theorem gX6_routes_X6_chosen : GoodIn wsX6_routes (wsV RX6 72 RX6 yX6_chosen wsX6_chosen) := goodIn_app (goodIn_of _ (by decide +kernel)) ggX6_routes_X6_chosen
set_option maxRecDepth 20000 in
theorem ggX6_routes_X6_lay : GoodIn wsX6_routes wsX6_lay := goodIn_r _ [46, 1, 55, 56, 57, 58, 59, 60, 61, 62, 63, 64, 65, 66] (by decide +kernel) (by decide +kernel)
set_option maxRecDepth 20000 in
theorem gX6_routes_X6_lay : GoodIn wsX6_routes (wsV RX6 38 RX6 yX6_lay wsX6_lay) := goodIn_app (goodIn_of _ (by decide +kernel)) ggX6_routes_X6_lay
set_option maxRecDepth 20000 in
theorem ggX6_routes_X6_pairOf : GoodIn wsX6_routes wsX6_pairOf := goodIn_r _ [50, 1, 36, 37, 7, 38, 13, 14, 15, 51, 52, 53, 54, 3, 28, 29, 30, 31, 20, 21, 22, 23, 4, 5, 6, 8, 16, 17, 18, 19, 55, 56, 57, 58, 59, 60, 61, 62, 63, 64, 65, 66] (by decide +kernel) (by decide +kernel)
set_option maxRecDepth 20000 in
theorem gX6_routes_X6_pairOf : GoodIn wsX6_routes (wsV RX6 75 RX6 yX6_pairOf wsX6_pairOf) := goodIn_app (goodIn_of _ (by decide +kernel)) ggX6_routes_X6_pairOf
set_option maxRecDepth 20000 in
theorem ggX6_routes_X6_lays : GoodIn wsX6_routes wsX6_lays := goodIn_r _ [54, 3, 1, 28, 29, 30, 7, 31, 20, 21, 22, 23, 4, 5, 6, 8, 16, 17, 18, 19, 55, 56, 57, 58, 59, 60, 61, 62, 63, 64, 65, 66] (by decide +kernel) (by decide +kernel)
set_option maxRecDepth 20000 in
theorem gX6_routes_X6_lays : GoodIn wsX6_routes (wsV RX6 58 RX6 yX6_lays wsX6_lays) := goodIn_app (goodIn_of _ (by decide +kernel)) ggX6_routes_X6_lays
theorem dX6_routes_0 : decode cX6_routes 0 = .ok (.aload_n 0, 1) := by decide +kernel
theorem dX6_routes_1 : decode cX6_routes 1 = .ok (.iload_n 1, 1) := by decide +kernel
theorem dX6_routes_2 : decode cX6_routes 2 = .ok (.iload_n 2, 1) := by decide +kernel
theorem dX6_routes_3 : decode cX6_routes 3 = .ok (.iconst 1, 1) := by decide +kernel
theorem dX6_routes_4 : decode cX6_routes 4 = .ok (.invokevirtual 41, 3) := by decide +kernel
theorem dX6_routes_7 : decode cX6_routes 7 = .ok (.aload_n 0, 1) := by decide +kernel
theorem dX6_routes_8 : decode cX6_routes 8 = .ok (.getfield 7, 3) := by decide +kernel
theorem dX6_routes_11 : decode cX6_routes 11 = .ok (.iload_n 1, 1) := by decide +kernel
theorem dX6_routes_12 : decode cX6_routes 12 = .ok (.iconst 1, 1) := by decide +kernel
theorem dX6_routes_13 : decode cX6_routes 13 = .ok (.iadd, 1) := by decide +kernel
theorem dX6_routes_14 : decode cX6_routes 14 = .ok (.iaload, 1) := by decide +kernel
theorem dX6_routes_15 : decode cX6_routes 15 = .ok (.idiv, 1) := by decide +kernel
theorem dX6_routes_16 : decode cX6_routes 16 = .ok (.istore_n 3, 1) := by decide +kernel
theorem dX6_routes_17 : decode cX6_routes 17 = .ok (.aload_n 0, 1) := by decide +kernel
theorem dX6_routes_18 : decode cX6_routes 18 = .ok (.iload_n 1, 1) := by decide +kernel
theorem dX6_routes_19 : decode cX6_routes 19 = .ok (.iload_n 2, 1) := by decide +kernel
theorem dX6_routes_20 : decode cX6_routes 20 = .ok (.aload_n 0, 1) := by decide +kernel
theorem dX6_routes_21 : decode cX6_routes 21 = .ok (.getfield 7, 3) := by decide +kernel
theorem dX6_routes_24 : decode cX6_routes 24 = .ok (.iload_n 1, 1) := by decide +kernel
theorem dX6_routes_25 : decode cX6_routes 25 = .ok (.iconst 1, 1) := by decide +kernel
theorem dX6_routes_26 : decode cX6_routes 26 = .ok (.iadd, 1) := by decide +kernel
theorem dX6_routes_27 : decode cX6_routes 27 = .ok (.iaload, 1) := by decide +kernel
theorem dX6_routes_28 : decode cX6_routes 28 = .ok (.idiv, 1) := by decide +kernel
theorem dX6_routes_29 : decode cX6_routes 29 = .ok (.invokevirtual 62, 3) := by decide +kernel
theorem dX6_routes_32 : decode cX6_routes 32 = .ok (.istore 4, 2) := by decide +kernel
theorem dX6_routes_34 : decode cX6_routes 34 = .ok (.aload_n 0, 1) := by decide +kernel
theorem dX6_routes_35 : decode cX6_routes 35 = .ok (.iload_n 1, 1) := by decide +kernel
theorem dX6_routes_36 : decode cX6_routes 36 = .ok (.iload_n 3, 1) := by decide +kernel
theorem dX6_routes_37 : decode cX6_routes 37 = .ok (.invokevirtual 65, 3) := by decide +kernel
theorem dX6_routes_40 : decode cX6_routes 40 = .ok (.istore 5, 2) := by decide +kernel
theorem dX6_routes_42 : decode cX6_routes 42 = .ok (.aload_n 0, 1) := by decide +kernel
theorem dX6_routes_43 : decode cX6_routes 43 = .ok (.iconst 0, 1) := by decide +kernel
theorem dX6_routes_44 : decode cX6_routes 44 = .ok (.putfield 68, 3) := by decide +kernel
theorem dX6_routes_47 : decode cX6_routes 47 = .ok (.iload 4, 2) := by decide +kernel
theorem dX6_routes_49 : decode cX6_routes 49 = .ok (.ifCond .eq 8, 3) := by decide +kernel
theorem dX6_routes_52 : decode cX6_routes 52 = .ok (.iload 5, 2) := by decide +kernel
theorem dX6_routes_54 : decode cX6_routes 54 = .ok (.ifCond .ne 6, 3) := by decide +kernel
theorem dX6_routes_57 : decode cX6_routes 57 = .ok (.bipush (-4), 2) := by decide +kernel
theorem dX6_routes_59 : decode cX6_routes 59 = .ok (.ireturn, 1) := by decide +kernel
theorem dX6_routes_60 : decode cX6_routes 60 = .ok (.iload 4, 2) := by decide +kernel
theorem dX6_routes_62 : decode cX6_routes 62 = .ok (.iload 5, 2) := by decide +kernel
theorem dX6_routes_64 : decode cX6_routes 64 = .ok (.iand, 1) := by decide +kernel
theorem dX6_routes_65 : decode cX6_routes 65 = .ok (.ifCond .eq 28, 3) := by decide +kernel
theorem dX6_routes_68 : decode cX6_routes 68 = .ok (.aload_n 0, 1) := by decide +kernel
theorem dX6_routes_69 : decode cX6_routes 69 = .ok (.iload_n 1, 1) := by decide +kernel
theorem dX6_routes_70 : decode cX6_routes 70 = .ok (.iload_n 2, 1) := by decide +kernel
theorem dX6_routes_71 : decode cX6_routes 71 = .ok (.iconst 2, 1) := by decide +kernel
theorem dX6_routes_72 : decode cX6_routes 72 = .ok (.aload_n 0, 1) := by decide +kernel
theorem dX6_routes_73 : decode cX6_routes 73 = .ok (.iload_n 1, 1) := by decide +kernel
theorem dX6_routes_74 : decode cX6_routes 74 = .ok (.iload 4, 2) := by decide +kernel
theorem dX6_routes_76 : decode cX6_routes 76 = .ok (.iload 5, 2) := by decide +kernel
theorem dX6_routes_78 : decode cX6_routes 78 = .ok (.iand, 1) := by decide +kernel
theorem dX6_routes_79 : decode cX6_routes 79 = .ok (.invokevirtual 72, 3) := by decide +kernel
theorem dX6_routes_82 : decode cX6_routes 82 = .ok (.invokevirtual 38, 3) := by decide +kernel
theorem dX6_routes_85 : decode cX6_routes 85 = .ok (.aload_n 0, 1) := by decide +kernel
theorem dX6_routes_86 : decode cX6_routes 86 = .ok (.iload_n 1, 1) := by decide +kernel
theorem dX6_routes_87 : decode cX6_routes 87 = .ok (.iload_n 2, 1) := by decide +kernel
theorem dX6_routes_88 : decode cX6_routes 88 = .ok (.iconst 2, 1) := by decide +kernel
theorem dX6_routes_89 : decode cX6_routes 89 = .ok (.invokevirtual 41, 3) := by decide +kernel
theorem dX6_routes_92 : decode cX6_routes 92 = .ok (.ireturn, 1) := by decide +kernel
theorem dX6_routes_93 : decode cX6_routes 93 = .ok (.aload_n 0, 1) := by decide +kernel
theorem dX6_routes_94 : decode cX6_routes 94 = .ok (.iload_n 1, 1) := by decide +kernel
theorem dX6_routes_95 : decode cX6_routes 95 = .ok (.iload 4, 2) := by decide +kernel
theorem dX6_routes_97 : decode cX6_routes 97 = .ok (.iload 5, 2) := by decide +kernel
theorem dX6_routes_99 : decode cX6_routes 99 = .ok (.iload_n 3, 1) := by decide +kernel
theorem dX6_routes_100 : decode cX6_routes 100 = .ok (.invokevirtual 75, 3) := by decide +kernel
theorem dX6_routes_103 : decode cX6_routes 103 = .ok (.istore 6, 2) := by decide +kernel
theorem dX6_routes_105 : decode cX6_routes 105 = .ok (.iload 6, 2) := by decide +kernel
theorem dX6_routes_107 : decode cX6_routes 107 = .ok (.bipush 8, 2) := by decide +kernel
theorem dX6_routes_109 : decode cX6_routes 109 = .ok (.idiv, 1) := by decide +kernel
theorem dX6_routes_110 : decode cX6_routes 110 = .ok (.istore 7, 2) := by decide +kernel
theorem dX6_routes_112 : decode cX6_routes 112 = .ok (.aload_n 0, 1) := by decide +kernel
theorem dX6_routes_113 : decode cX6_routes 113 = .ok (.aload_n 0, 1) := by decide +kernel
theorem dX6_routes_114 : decode cX6_routes 114 = .ok (.iload_n 1, 1) := by decide +kernel
theorem dX6_routes_115 : decode cX6_routes 115 = .ok (.iload 7, 2) := by decide +kernel
theorem dX6_routes_117 : decode cX6_routes 117 = .ok (.iload 6, 2) := by decide +kernel
theorem dX6_routes_119 : decode cX6_routes 119 = .ok (.bipush 8, 2) := by decide +kernel
theorem dX6_routes_121 : decode cX6_routes 121 = .ok (.irem, 1) := by decide +kernel
theorem dX6_routes_122 : decode cX6_routes 122 = .ok (.iload_n 3, 1) := by decide +kernel
theorem dX6_routes_123 : decode cX6_routes 123 = .ok (.invokevirtual 58, 3) := by decide +kernel
theorem dX6_routes_126 : decode cX6_routes 126 = .ok (.putfield 68, 3) := by decide +kernel
theorem dX6_routes_129 : decode cX6_routes 129 = .ok (.iconst 0, 1) := by decide +kernel
theorem dX6_routes_130 : decode cX6_routes 130 = .ok (.istore 8, 2) := by decide +kernel
theorem dX6_routes_132 : decode cX6_routes 132 = .ok (.iload 8, 2) := by decide +kernel
theorem dX6_routes_134 : decode cX6_routes 134 = .ok (.aload_n 0, 1) := by decide +kernel
theorem dX6_routes_135 : decode cX6_routes 135 = .ok (.getfield 68, 3) := by decide +kernel
theorem dX6_routes_138 : decode cX6_routes 138 = .ok (.if_icmp .ge 44, 3) := by decide +kernel
theorem dX6_routes_141 : decode cX6_routes 141 = .ok (.aload_n 0, 1) := by decide +kernel
theorem dX6_routes_142 : decode cX6_routes 142 = .ok (.iload_n 1, 1) := by decide +kernel
theorem dX6_routes_143 : decode cX6_routes 143 = .ok (.aload_n 0, 1) := by decide +kernel
theorem dX6_routes_144 : decode cX6_routes 144 = .ok (.getfield 16, 3) := by decide +kernel
theorem dX6_routes_147 : decode cX6_routes 147 = .ok (.iload 8, 2) := by decide +kernel
theorem dX6_routes_149 : decode cX6_routes 149 = .ok (.iaload, 1) := by decide +kernel
theorem dX6_routes_150 : decode cX6_routes 150 = .ok (.iconst 2, 1) := by decide +kernel
theorem dX6_routes_151 : decode cX6_routes 151 = .ok (.iload 7, 2) := by decide +kernel
theorem dX6_routes_153 : decode cX6_routes 153 = .ok (.iload 6, 2) := by decide +kernel
theorem dX6_routes_155 : decode cX6_routes 155 = .ok (.bipush 8, 2) := by decide +kernel
theorem dX6_routes_157 : decode cX6_routes 157 = .ok (.irem, 1) := by decide +kernel
theorem dX6_routes_158 : decode cX6_routes 158 = .ok (.iadd, 1) := by decide +kernel
theorem dX6_routes_159 : decode cX6_routes 159 = .ok (.aload_n 0, 1) := by decide +kernel
theorem dX6_routes_160 : decode cX6_routes 160 = .ok (.iload_n 1, 1) := by decide +kernel
theorem dX6_routes_161 : decode cX6_routes 161 = .ok (.aload_n 0, 1) := by decide +kernel
theorem dX6_routes_162 : decode cX6_routes 162 = .ok (.getfield 16, 3) := by decide +kernel
theorem dX6_routes_165 : decode cX6_routes 165 = .ok (.iload 8, 2) := by decide +kernel
theorem dX6_routes_167 : decode cX6_routes 167 = .ok (.iaload, 1) := by decide +kernel
theorem dX6_routes_168 : decode cX6_routes 168 = .ok (.iconst 2, 1) := by decide +kernel
theorem dX6_routes_169 : decode cX6_routes 169 = .ok (.invokevirtual 41, 3) := by decide +kernel
theorem dX6_routes_172 : decode cX6_routes 172 = .ok (.isub, 1) := by decide +kernel
theorem dX6_routes_173 : decode cX6_routes 173 = .ok (.invokevirtual 38, 3) := by decide +kernel
theorem dX6_routes_176 : decode cX6_routes 176 = .ok (.iinc 8 1, 3) := by decide +kernel
theorem dX6_routes_179 : decode cX6_routes 179 = .ok (.goto (-47), 3) := by decide +kernel
theorem dX6_routes_182 : decode cX6_routes 182 = .ok (.aload_n 0, 1) := by decide +kernel
theorem dX6_routes_183 : decode cX6_routes 183 = .ok (.getfield 7, 3) := by decide +kernel
theorem dX6_routes_186 : decode cX6_routes 186 = .ok (.iload_n 1, 1) := by decide +kernel
theorem dX6_routes_187 : decode cX6_routes 187 = .ok (.bipush 8, 2) := by decide +kernel
theorem dX6_routes_189 : decode cX6_routes 189 = .ok (.iadd, 1) := by decide +kernel
theorem dX6_routes_190 : decode cX6_routes 190 = .ok (.dup2, 1) := by decide +kernel
theorem dX6_routes_191 : decode cX6_routes 191 = .ok (.iaload, 1) := by decide +kernel
theorem dX6_routes_192 : decode cX6_routes 192 = .ok (.aload_n 0, 1) := by decide +kernel
theorem dX6_routes_193 : decode cX6_routes 193 = .ok (.getfield 68, 3) := by decide +kernel
theorem dX6_routes_196 : decode cX6_routes 196 = .ok (.iadd, 1) := by decide +kernel
theorem dX6_routes_197 : decode cX6_routes 197 = .ok (.iastore, 1) := by decide +kernel
theorem dX6_routes_198 : decode cX6_routes 198 = .ok (.aload_n 0, 1) := by decide +kernel
theorem dX6_routes_199 : decode cX6_routes 199 = .ok (.iload_n 1, 1) := by decide +kernel
theorem dX6_routes_200 : decode cX6_routes 200 = .ok (.iload_n 2, 1) := by decide +kernel
theorem dX6_routes_201 : decode cX6_routes 201 = .ok (.iconst 2, 1) := by decide +kernel
theorem dX6_routes_202 : decode cX6_routes 202 = .ok (.iload 7, 2) := by decide +kernel
theorem dX6_routes_204 : decode cX6_routes 204 = .ok (.invokevirtual 38, 3) := by decide +kernel
theorem dX6_routes_207 : decode cX6_routes 207 = .ok (.iload 7, 2) := by decide +kernel
theorem dX6_routes_209 : decode cX6_routes 209 = .ok (.ireturn, 1) := by decide +kernel
set_option maxRecDepth 20000 in
theorem ggX6_nextOff_X6_lines : GoodIn wsX6_nextOff wsX6_lines := goodIn_r _ [5, 6, 11, 12, 13, 14, 15, 16, 17, 18, 19, 20, 21, 22] (by decide +kernel) (by decide +kernel)
set_option maxRecDepth 20000 in
theorem gX6_nextOff_X6_lines : GoodIn wsX6_nextOff (wsV RX6 30 RX6 yX6_lines wsX6_lines) := goodIn_app (goodIn_of _ (by decide +kernel)) ggX6_nextOff_X6_lines
set_option maxRecDepth 20000 in
theorem ggX6_nextOff_X6_of : GoodIn wsX6_nextOff wsX6_of := goodIn_r _ [10, 6, 11, 12, 13, 14, 15, 16, 17, 18, 19, 20, 21, 22] (by decide +kernel) (by decide +kernel)
set_option maxRecDepth 20000 in
theorem gX6_nextOff_X6_of : GoodIn wsX6_nextOff (wsV RX6 41 RX6 yX6_of wsX6_of) := goodIn_app (goodIn_of _ (by decide +kernel)) ggX6_nextOff_X6_of
theorem dX6_nextOff_0 : decode cX6_nextOff 0 = .ok (.iconst (-1), 1) := by decide +kernel
theorem dX6_nextOff_1 : decode cX6_nextOff 1 = .ok (.istore_n 2, 1) := by decide +kernel
theorem dX6_nextOff_2 : decode cX6_nextOff 2 = .ok (.iconst 0, 1) := by decide +kernel
theorem dX6_nextOff_3 : decode cX6_nextOff 3 = .ok (.istore_n 3, 1) := by decide +kernel
theorem dX6_nextOff_4 : decode cX6_nextOff 4 = .ok (.iload_n 3, 1) := by decide +kernel
theorem dX6_nextOff_5 : decode cX6_nextOff 5 = .ok (.aload_n 0, 1) := by decide +kernel
theorem dX6_nextOff_6 : decode cX6_nextOff 6 = .ok (.iload_n 1, 1) := by decide +kernel
theorem dX6_nextOff_7 : decode cX6_nextOff 7 = .ok (.invokevirtual 30, 3) := by decide +kernel
theorem dX6_nextOff_10 : decode cX6_nextOff 10 = .ok (.if_icmp .ge 71, 3) := by decide +kernel
theorem dX6_nextOff_13 : decode cX6_nextOff 13 = .ok (.aload_n 0, 1) := by decide +kernel
theorem dX6_nextOff_14 : decode cX6_nextOff 14 = .ok (.iload_n 1, 1) := by decide +kernel
theorem dX6_nextOff_15 : decode cX6_nextOff 15 = .ok (.iload_n 3, 1) := by decide +kernel
theorem dX6_nextOff_16 : decode cX6_nextOff 16 = .ok (.iconst 0, 1) := by decide +kernel
theorem dX6_nextOff_17 : decode cX6_nextOff 17 = .ok (.invokevirtual 41, 3) := by decide +kernel
theorem dX6_nextOff_20 : decode cX6_nextOff 20 = .ok (.iconst (-1), 1) := by decide +kernel
theorem dX6_nextOff_21 : decode cX6_nextOff 21 = .ok (.if_icmp .eq 18, 3) := by decide +kernel
theorem dX6_nextOff_24 : decode cX6_nextOff 24 = .ok (.aload_n 0, 1) := by decide +kernel
theorem dX6_nextOff_25 : decode cX6_nextOff 25 = .ok (.iload_n 1, 1) := by decide +kernel
theorem dX6_nextOff_26 : decode cX6_nextOff 26 = .ok (.iload_n 3, 1) := by decide +kernel
theorem dX6_nextOff_27 : decode cX6_nextOff 27 = .ok (.iconst 2, 1) := by decide +kernel
theorem dX6_nextOff_28 : decode cX6_nextOff 28 = .ok (.invokevirtual 41, 3) := by decide +kernel
theorem dX6_nextOff_31 : decode cX6_nextOff 31 = .ok (.iconst (-1), 1) := by decide +kernel
theorem dX6_nextOff_32 : decode cX6_nextOff 32 = .ok (.if_icmp .ne 7, 3) := by decide +kernel
theorem dX6_nextOff_35 : decode cX6_nextOff 35 = .ok (.iconst 1, 1) := by decide +kernel
theorem dX6_nextOff_36 : decode cX6_nextOff 36 = .ok (.goto 4, 3) := by decide +kernel
theorem dX6_nextOff_39 : decode cX6_nextOff 39 = .ok (.iconst 0, 1) := by decide +kernel
theorem dX6_nextOff_40 : decode cX6_nextOff 40 = .ok (.istore 4, 2) := by decide +kernel
theorem dX6_nextOff_42 : decode cX6_nextOff 42 = .ok (.iload 4, 2) := by decide +kernel
theorem dX6_nextOff_44 : decode cX6_nextOff 44 = .ok (.ifCond .eq 29, 3) := by decide +kernel
theorem dX6_nextOff_47 : decode cX6_nextOff 47 = .ok (.iload_n 2, 1) := by decide +kernel
theorem dX6_nextOff_48 : decode cX6_nextOff 48 = .ok (.iconst (-1), 1) := by decide +kernel
theorem dX6_nextOff_49 : decode cX6_nextOff 49 = .ok (.if_icmp .eq 20, 3) := by decide +kernel
theorem dX6_nextOff_52 : decode cX6_nextOff 52 = .ok (.aload_n 0, 1) := by decide +kernel
theorem dX6_nextOff_53 : decode cX6_nextOff 53 = .ok (.iload_n 1, 1) := by decide +kernel
theorem dX6_nextOff_54 : decode cX6_nextOff 54 = .ok (.iload_n 3, 1) := by decide +kernel
theorem dX6_nextOff_55 : decode cX6_nextOff 55 = .ok (.iconst 0, 1) := by decide +kernel
theorem dX6_nextOff_56 : decode cX6_nextOff 56 = .ok (.invokevirtual 41, 3) := by decide +kernel
theorem dX6_nextOff_59 : decode cX6_nextOff 59 = .ok (.aload_n 0, 1) := by decide +kernel
theorem dX6_nextOff_60 : decode cX6_nextOff 60 = .ok (.iload_n 1, 1) := by decide +kernel
theorem dX6_nextOff_61 : decode cX6_nextOff 61 = .ok (.iload_n 2, 1) := by decide +kernel
theorem dX6_nextOff_62 : decode cX6_nextOff 62 = .ok (.iconst 0, 1) := by decide +kernel
theorem dX6_nextOff_63 : decode cX6_nextOff 63 = .ok (.invokevirtual 41, 3) := by decide +kernel
theorem dX6_nextOff_66 : decode cX6_nextOff 66 = .ok (.if_icmp .ge 7, 3) := by decide +kernel
theorem dX6_nextOff_69 : decode cX6_nextOff 69 = .ok (.iload_n 3, 1) := by decide +kernel
theorem dX6_nextOff_70 : decode cX6_nextOff 70 = .ok (.goto 4, 3) := by decide +kernel
theorem dX6_nextOff_73 : decode cX6_nextOff 73 = .ok (.iload_n 2, 1) := by decide +kernel
theorem dX6_nextOff_74 : decode cX6_nextOff 74 = .ok (.istore_n 2, 1) := by decide +kernel
theorem dX6_nextOff_75 : decode cX6_nextOff 75 = .ok (.iinc 3 1, 3) := by decide +kernel
theorem dX6_nextOff_78 : decode cX6_nextOff 78 = .ok (.goto (-74), 3) := by decide +kernel
theorem dX6_nextOff_81 : decode cX6_nextOff 81 = .ok (.iload_n 2, 1) := by decide +kernel
theorem dX6_nextOff_82 : decode cX6_nextOff 82 = .ok (.ireturn, 1) := by decide +kernel
set_option maxRecDepth 20000 in
theorem ggX6_connects_X6_isLine : GoodIn wsX6_connects wsX6_isLine := goodIn_r _ [6, 7, 8, 9, 5, 10, 1, 11, 12, 13, 70, 71, 72, 73, 74, 75, 76, 77, 78, 79, 80, 81] (by decide +kernel) (by decide +kernel)
set_option maxRecDepth 20000 in
theorem gX6_connects_X6_isLine : GoodIn wsX6_connects (wsV RX6 78 RX6 yX6_isLine wsX6_isLine) := goodIn_app (goodIn_of _ (by decide +kernel)) ggX6_connects_X6_isLine
set_option maxRecDepth 20000 in
theorem ggX6_connects_X6_of : GoodIn wsX6_connects wsX6_of := goodIn_r _ [17, 1, 70, 71, 72, 73, 74, 75, 76, 77, 78, 79, 80, 81] (by decide +kernel) (by decide +kernel)
set_option maxRecDepth 20000 in
theorem gX6_connects_X6_of : GoodIn wsX6_connects (wsV RX6 41 RX6 yX6_of wsX6_of) := goodIn_app (goodIn_of _ (by decide +kernel)) ggX6_connects_X6_of
set_option maxRecDepth 20000 in
theorem ggX6_connects_X6_inletTo : GoodIn wsX6_connects wsX6_inletTo := goodIn_r _ [21, 7, 8, 9, 5, 10, 1, 14, 15, 16, 17, 70, 71, 72, 73, 74, 75, 76, 77, 78, 79, 80, 81] (by decide +kernel) (by decide +kernel)
set_option maxRecDepth 20000 in
theorem gX6_connects_X6_inletTo : GoodIn wsX6_connects (wsV RX6 81 RX6 yX6_inletTo wsX6_inletTo) := goodIn_app (goodIn_of _ (by decide +kernel)) ggX6_connects_X6_inletTo
set_option maxRecDepth 20000 in
theorem ggX6_connects_X6_lay : GoodIn wsX6_connects wsX6_lay := goodIn_r _ [25, 1, 70, 71, 72, 73, 74, 75, 76, 77, 78, 79, 80, 81] (by decide +kernel) (by decide +kernel)
set_option maxRecDepth 20000 in
theorem gX6_connects_X6_lay : GoodIn wsX6_connects (wsV RX6 38 RX6 yX6_lay wsX6_lay) := goodIn_app (goodIn_of _ (by decide +kernel)) ggX6_connects_X6_lay
set_option maxRecDepth 20000 in
theorem ggX6_connects_X6_routes : GoodIn wsX6_connects wsX6_routes := goodIn_r _ [29, 1, 30, 31, 14, 15, 16, 5, 17, 32, 33, 34, 35, 36, 37, 38, 39, 40, 41, 42, 7, 8, 9, 10, 43, 44, 45, 46, 47, 48, 49, 50, 51, 52, 53, 54, 55, 56, 57, 58, 59, 60, 61, 22, 23, 24, 25, 62, 63, 64, 65, 66, 67, 68, 69, 70, 71, 72, 73, 74, 75, 76, 77, 78, 79, 80, 81] (by decide +kernel) (by decide +kernel)
set_option maxRecDepth 20000 in
theorem gX6_connects_X6_routes : GoodIn wsX6_connects (wsV RX6 84 RX6 yX6_routes wsX6_routes) := goodIn_app (goodIn_of _ (by decide +kernel)) ggX6_connects_X6_routes
theorem dX6_connects_0 : decode cX6_connects 0 = .ok (.aload_n 0, 1) := by decide +kernel
theorem dX6_connects_1 : decode cX6_connects 1 = .ok (.iload_n 1, 1) := by decide +kernel
theorem dX6_connects_2 : decode cX6_connects 2 = .ok (.iload_n 2, 1) := by decide +kernel
theorem dX6_connects_3 : decode cX6_connects 3 = .ok (.invokevirtual 78, 3) := by decide +kernel
theorem dX6_connects_6 : decode cX6_connects 6 = .ok (.ifCond .eq 12, 3) := by decide +kernel
theorem dX6_connects_9 : decode cX6_connects 9 = .ok (.aload_n 0, 1) := by decide +kernel
theorem dX6_connects_10 : decode cX6_connects 10 = .ok (.iload_n 1, 1) := by decide +kernel
theorem dX6_connects_11 : decode cX6_connects 11 = .ok (.iload_n 3, 1) := by decide +kernel
theorem dX6_connects_12 : decode cX6_connects 12 = .ok (.invokevirtual 78, 3) := by decide +kernel
theorem dX6_connects_15 : decode cX6_connects 15 = .ok (.ifCond .ne 5, 3) := by decide +kernel
theorem dX6_connects_18 : decode cX6_connects 18 = .ok (.iconst (-1), 1) := by decide +kernel
theorem dX6_connects_19 : decode cX6_connects 19 = .ok (.ireturn, 1) := by decide +kernel
theorem dX6_connects_20 : decode cX6_connects 20 = .ok (.aload_n 0, 1) := by decide +kernel
theorem dX6_connects_21 : decode cX6_connects 21 = .ok (.iload_n 1, 1) := by decide +kernel
theorem dX6_connects_22 : decode cX6_connects 22 = .ok (.iload_n 2, 1) := by decide +kernel
theorem dX6_connects_23 : decode cX6_connects 23 = .ok (.iconst 0, 1) := by decide +kernel
theorem dX6_connects_24 : decode cX6_connects 24 = .ok (.invokevirtual 41, 3) := by decide +kernel
theorem dX6_connects_27 : decode cX6_connects 27 = .ok (.iconst (-1), 1) := by decide +kernel
theorem dX6_connects_28 : decode cX6_connects 28 = .ok (.if_icmp .ne 13, 3) := by decide +kernel
theorem dX6_connects_31 : decode cX6_connects 31 = .ok (.aload_n 0, 1) := by decide +kernel
theorem dX6_connects_32 : decode cX6_connects 32 = .ok (.iload_n 1, 1) := by decide +kernel
theorem dX6_connects_33 : decode cX6_connects 33 = .ok (.iload_n 3, 1) := by decide +kernel
theorem dX6_connects_34 : decode cX6_connects 34 = .ok (.invokevirtual 81, 3) := by decide +kernel
theorem dX6_connects_37 : decode cX6_connects 37 = .ok (.iconst (-1), 1) := by decide +kernel
theorem dX6_connects_38 : decode cX6_connects 38 = .ok (.if_icmp .eq 6, 3) := by decide +kernel
theorem dX6_connects_41 : decode cX6_connects 41 = .ok (.bipush (-3), 2) := by decide +kernel
theorem dX6_connects_43 : decode cX6_connects 43 = .ok (.ireturn, 1) := by decide +kernel
theorem dX6_connects_44 : decode cX6_connects 44 = .ok (.aload_n 0, 1) := by decide +kernel
theorem dX6_connects_45 : decode cX6_connects 45 = .ok (.iload_n 1, 1) := by decide +kernel
theorem dX6_connects_46 : decode cX6_connects 46 = .ok (.iload_n 2, 1) := by decide +kernel
theorem dX6_connects_47 : decode cX6_connects 47 = .ok (.iconst 0, 1) := by decide +kernel
theorem dX6_connects_48 : decode cX6_connects 48 = .ok (.aload_n 0, 1) := by decide +kernel
theorem dX6_connects_49 : decode cX6_connects 49 = .ok (.getfield 7, 3) := by decide +kernel
theorem dX6_connects_52 : decode cX6_connects 52 = .ok (.iload_n 1, 1) := by decide +kernel
theorem dX6_connects_53 : decode cX6_connects 53 = .ok (.iconst 5, 1) := by decide +kernel
theorem dX6_connects_54 : decode cX6_connects 54 = .ok (.iadd, 1) := by decide +kernel
theorem dX6_connects_55 : decode cX6_connects 55 = .ok (.iaload, 1) := by decide +kernel
theorem dX6_connects_56 : decode cX6_connects 56 = .ok (.invokevirtual 38, 3) := by decide +kernel
theorem dX6_connects_59 : decode cX6_connects 59 = .ok (.aload_n 0, 1) := by decide +kernel
theorem dX6_connects_60 : decode cX6_connects 60 = .ok (.iload_n 1, 1) := by decide +kernel
theorem dX6_connects_61 : decode cX6_connects 61 = .ok (.iload_n 2, 1) := by decide +kernel
theorem dX6_connects_62 : decode cX6_connects 62 = .ok (.iconst 1, 1) := by decide +kernel
theorem dX6_connects_63 : decode cX6_connects 63 = .ok (.iload_n 3, 1) := by decide +kernel
theorem dX6_connects_64 : decode cX6_connects 64 = .ok (.invokevirtual 38, 3) := by decide +kernel
theorem dX6_connects_67 : decode cX6_connects 67 = .ok (.aload_n 0, 1) := by decide +kernel
theorem dX6_connects_68 : decode cX6_connects 68 = .ok (.iload_n 1, 1) := by decide +kernel
theorem dX6_connects_69 : decode cX6_connects 69 = .ok (.iload_n 2, 1) := by decide +kernel
theorem dX6_connects_70 : decode cX6_connects 70 = .ok (.iconst 2, 1) := by decide +kernel
theorem dX6_connects_71 : decode cX6_connects 71 = .ok (.iconst (-1), 1) := by decide +kernel
theorem dX6_connects_72 : decode cX6_connects 72 = .ok (.invokevirtual 38, 3) := by decide +kernel
theorem dX6_connects_75 : decode cX6_connects 75 = .ok (.aload_n 0, 1) := by decide +kernel
theorem dX6_connects_76 : decode cX6_connects 76 = .ok (.getfield 7, 3) := by decide +kernel
theorem dX6_connects_79 : decode cX6_connects 79 = .ok (.iload_n 1, 1) := by decide +kernel
theorem dX6_connects_80 : decode cX6_connects 80 = .ok (.iconst 5, 1) := by decide +kernel
theorem dX6_connects_81 : decode cX6_connects 81 = .ok (.iadd, 1) := by decide +kernel
theorem dX6_connects_82 : decode cX6_connects 82 = .ok (.dup2, 1) := by decide +kernel
theorem dX6_connects_83 : decode cX6_connects 83 = .ok (.iaload, 1) := by decide +kernel
theorem dX6_connects_84 : decode cX6_connects 84 = .ok (.iconst 1, 1) := by decide +kernel
theorem dX6_connects_85 : decode cX6_connects 85 = .ok (.iadd, 1) := by decide +kernel
theorem dX6_connects_86 : decode cX6_connects 86 = .ok (.iastore, 1) := by decide +kernel
theorem dX6_connects_87 : decode cX6_connects 87 = .ok (.aload_n 0, 1) := by decide +kernel
theorem dX6_connects_88 : decode cX6_connects 88 = .ok (.iload_n 1, 1) := by decide +kernel
theorem dX6_connects_89 : decode cX6_connects 89 = .ok (.iload_n 2, 1) := by decide +kernel
theorem dX6_connects_90 : decode cX6_connects 90 = .ok (.invokevirtual 84, 3) := by decide +kernel
theorem dX6_connects_93 : decode cX6_connects 93 = .ok (.ireturn, 1) := by decide +kernel
set_option maxRecDepth 20000 in
theorem ggX6_disconnects_X6_isLine : GoodIn wsX6_disconnects wsX6_isLine := goodIn_r _ [6, 7, 8, 9, 5, 10, 1, 11, 12, 13, 22, 23, 24, 25, 26, 27, 28, 29, 30, 31, 32, 33] (by decide +kernel) (by decide +kernel)
set_option maxRecDepth 20000 in
theorem gX6_disconnects_X6_isLine : GoodIn wsX6_disconnects (wsV RX6 78 RX6 yX6_isLine wsX6_isLine) := goodIn_app (goodIn_of _ (by decide +kernel)) ggX6_disconnects_X6_isLine
set_option maxRecDepth 20000 in
theorem ggX6_disconnects_X6_of : GoodIn wsX6_disconnects wsX6_of := goodIn_r _ [17, 1, 22, 23, 24, 25, 26, 27, 28, 29, 30, 31, 32, 33] (by decide +kernel) (by decide +kernel)
set_option maxRecDepth 20000 in
theorem gX6_disconnects_X6_of : GoodIn wsX6_disconnects (wsV RX6 41 RX6 yX6_of wsX6_of) := goodIn_app (goodIn_of _ (by decide +kernel)) ggX6_disconnects_X6_of
set_option maxRecDepth 20000 in
theorem ggX6_disconnects_X6_lay : GoodIn wsX6_disconnects wsX6_lay := goodIn_r _ [21, 1, 22, 23, 24, 25, 26, 27, 28, 29, 30, 31, 32, 33] (by decide +kernel) (by decide +kernel)
set_option maxRecDepth 20000 in
theorem gX6_disconnects_X6_lay : GoodIn wsX6_disconnects (wsV RX6 38 RX6 yX6_lay wsX6_lay) := goodIn_app (goodIn_of _ (by decide +kernel)) ggX6_disconnects_X6_lay
theorem dX6_disconnects_0 : decode cX6_disconnects 0 = .ok (.aload_n 0, 1) := by decide +kernel
theorem dX6_disconnects_1 : decode cX6_disconnects 1 = .ok (.iload_n 1, 1) := by decide +kernel
theorem dX6_disconnects_2 : decode cX6_disconnects 2 = .ok (.iload_n 2, 1) := by decide +kernel
theorem dX6_disconnects_3 : decode cX6_disconnects 3 = .ok (.invokevirtual 78, 3) := by decide +kernel
theorem dX6_disconnects_6 : decode cX6_disconnects 6 = .ok (.ifCond .ne 5, 3) := by decide +kernel
theorem dX6_disconnects_9 : decode cX6_disconnects 9 = .ok (.iconst (-1), 1) := by decide +kernel
theorem dX6_disconnects_10 : decode cX6_disconnects 10 = .ok (.ireturn, 1) := by decide +kernel
theorem dX6_disconnects_11 : decode cX6_disconnects 11 = .ok (.aload_n 0, 1) := by decide +kernel
theorem dX6_disconnects_12 : decode cX6_disconnects 12 = .ok (.iload_n 1, 1) := by decide +kernel
theorem dX6_disconnects_13 : decode cX6_disconnects 13 = .ok (.iload_n 2, 1) := by decide +kernel
theorem dX6_disconnects_14 : decode cX6_disconnects 14 = .ok (.iconst 0, 1) := by decide +kernel
theorem dX6_disconnects_15 : decode cX6_disconnects 15 = .ok (.invokevirtual 41, 3) := by decide +kernel
theorem dX6_disconnects_18 : decode cX6_disconnects 18 = .ok (.istore_n 3, 1) := by decide +kernel
theorem dX6_disconnects_19 : decode cX6_disconnects 19 = .ok (.iload_n 3, 1) := by decide +kernel
theorem dX6_disconnects_20 : decode cX6_disconnects 20 = .ok (.iconst (-1), 1) := by decide +kernel
theorem dX6_disconnects_21 : decode cX6_disconnects 21 = .ok (.if_icmp .ne 6, 3) := by decide +kernel
theorem dX6_disconnects_24 : decode cX6_disconnects 24 = .ok (.bipush (-3), 2) := by decide +kernel
theorem dX6_disconnects_26 : decode cX6_disconnects 26 = .ok (.ireturn, 1) := by decide +kernel
theorem dX6_disconnects_27 : decode cX6_disconnects 27 = .ok (.aload_n 0, 1) := by decide +kernel
theorem dX6_disconnects_28 : decode cX6_disconnects 28 = .ok (.iload_n 1, 1) := by decide +kernel
theorem dX6_disconnects_29 : decode cX6_disconnects 29 = .ok (.iload_n 2, 1) := by decide +kernel
theorem dX6_disconnects_30 : decode cX6_disconnects 30 = .ok (.iconst 0, 1) := by decide +kernel
theorem dX6_disconnects_31 : decode cX6_disconnects 31 = .ok (.iconst (-1), 1) := by decide +kernel
theorem dX6_disconnects_32 : decode cX6_disconnects 32 = .ok (.invokevirtual 38, 3) := by decide +kernel
theorem dX6_disconnects_35 : decode cX6_disconnects 35 = .ok (.aload_n 0, 1) := by decide +kernel
theorem dX6_disconnects_36 : decode cX6_disconnects 36 = .ok (.getfield 7, 3) := by decide +kernel
theorem dX6_disconnects_39 : decode cX6_disconnects 39 = .ok (.iload_n 1, 1) := by decide +kernel
theorem dX6_disconnects_40 : decode cX6_disconnects 40 = .ok (.bipush 6, 2) := by decide +kernel
theorem dX6_disconnects_42 : decode cX6_disconnects 42 = .ok (.iadd, 1) := by decide +kernel
theorem dX6_disconnects_43 : decode cX6_disconnects 43 = .ok (.dup2, 1) := by decide +kernel
theorem dX6_disconnects_44 : decode cX6_disconnects 44 = .ok (.iaload, 1) := by decide +kernel
theorem dX6_disconnects_45 : decode cX6_disconnects 45 = .ok (.iconst 1, 1) := by decide +kernel
theorem dX6_disconnects_46 : decode cX6_disconnects 46 = .ok (.iadd, 1) := by decide +kernel
theorem dX6_disconnects_47 : decode cX6_disconnects 47 = .ok (.iastore, 1) := by decide +kernel
theorem dX6_disconnects_48 : decode cX6_disconnects 48 = .ok (.iload_n 3, 1) := by decide +kernel
theorem dX6_disconnects_49 : decode cX6_disconnects 49 = .ok (.ireturn, 1) := by decide +kernel
set_option maxRecDepth 20000 in
theorem ggX6_takesOut_X6_isMiddle : GoodIn wsX6_takesOut wsX6_isMiddle := goodIn_r _ [6, 1, 7, 8, 5, 9, 70, 71, 72, 73, 74, 75, 76, 77, 78, 79, 80, 81] (by decide +kernel) (by decide +kernel)
set_option maxRecDepth 20000 in
theorem gX6_takesOut_X6_isMiddle : GoodIn wsX6_takesOut (wsV RX6 87 RX6 yX6_isMiddle wsX6_isMiddle) := goodIn_app (goodIn_of _ (by decide +kernel)) ggX6_takesOut_X6_isMiddle
set_option maxRecDepth 20000 in
theorem ggX6_takesOut_X6_has : GoodIn wsX6_takesOut wsX6_has := goodIn_r _ [12] (by decide +kernel) (by decide +kernel)
set_option maxRecDepth 20000 in
theorem gX6_takesOut_X6_has : GoodIn wsX6_takesOut (va_wsS RX6 26 yX6_has wsX6_has) := goodIn_app (goodIn_of _ (by decide +kernel)) ggX6_takesOut_X6_has
set_option maxRecDepth 20000 in
theorem ggX6_takesOut_X6_lines : GoodIn wsX6_takesOut wsX6_lines := goodIn_r _ [16, 1, 70, 71, 72, 73, 74, 75, 76, 77, 78, 79, 80, 81] (by decide +kernel) (by decide +kernel)
set_option maxRecDepth 20000 in
theorem gX6_takesOut_X6_lines : GoodIn wsX6_takesOut (wsV RX6 30 RX6 yX6_lines wsX6_lines) := goodIn_app (goodIn_of _ (by decide +kernel)) ggX6_takesOut_X6_lines
set_option maxRecDepth 20000 in
theorem ggX6_takesOut_X6_of : GoodIn wsX6_takesOut wsX6_of := goodIn_r _ [20, 1, 70, 71, 72, 73, 74, 75, 76, 77, 78, 79, 80, 81] (by decide +kernel) (by decide +kernel)
set_option maxRecDepth 20000 in
theorem gX6_takesOut_X6_of : GoodIn wsX6_takesOut (wsV RX6 41 RX6 yX6_of wsX6_of) := goodIn_app (goodIn_of _ (by decide +kernel)) ggX6_takesOut_X6_of
set_option maxRecDepth 20000 in
theorem ggX6_takesOut_X6_lay : GoodIn wsX6_takesOut wsX6_lay := goodIn_r _ [24, 1, 70, 71, 72, 73, 74, 75, 76, 77, 78, 79, 80, 81] (by decide +kernel) (by decide +kernel)
set_option maxRecDepth 20000 in
theorem gX6_takesOut_X6_lay : GoodIn wsX6_takesOut (wsV RX6 38 RX6 yX6_lay wsX6_lay) := goodIn_app (goodIn_of _ (by decide +kernel)) ggX6_takesOut_X6_lay
set_option maxRecDepth 20000 in
theorem ggX6_takesOut_X6_nextOff : GoodIn wsX6_takesOut wsX6_nextOff := goodIn_r _ [28, 13, 14, 15, 5, 16, 1, 17, 18, 19, 20, 70, 71, 72, 73, 74, 75, 76, 77, 78, 79, 80, 81] (by decide +kernel) (by decide +kernel)
set_option maxRecDepth 20000 in
theorem gX6_takesOut_X6_nextOff : GoodIn wsX6_takesOut (wsV RX6 90 RX6 yX6_nextOff wsX6_nextOff) := goodIn_app (goodIn_of _ (by decide +kernel)) ggX6_takesOut_X6_nextOff
set_option maxRecDepth 20000 in
theorem ggX6_takesOut_X6_routes : GoodIn wsX6_takesOut wsX6_routes := goodIn_r _ [32, 1, 33, 34, 17, 18, 19, 5, 20, 35, 36, 37, 38, 10, 11, 12, 39, 40, 41, 42, 13, 14, 15, 16, 43, 44, 45, 46, 47, 48, 49, 50, 51, 52, 53, 54, 55, 56, 57, 58, 59, 60, 61, 21, 22, 23, 24, 62, 63, 64, 65, 66, 67, 68, 69, 70, 71, 72, 73, 74, 75, 76, 77, 78, 79, 80, 81] (by decide +kernel) (by decide +kernel)
set_option maxRecDepth 20000 in
theorem gX6_takesOut_X6_routes : GoodIn wsX6_takesOut (wsV RX6 84 RX6 yX6_routes wsX6_routes) := goodIn_app (goodIn_of _ (by decide +kernel)) ggX6_takesOut_X6_routes
theorem dX6_takesOut_0 : decode cX6_takesOut 0 = .ok (.aload_n 0, 1) := by decide +kernel
theorem dX6_takesOut_1 : decode cX6_takesOut 1 = .ok (.iload_n 1, 1) := by decide +kernel
theorem dX6_takesOut_2 : decode cX6_takesOut 2 = .ok (.iload_n 2, 1) := by decide +kernel
theorem dX6_takesOut_3 : decode cX6_takesOut 3 = .ok (.invokevirtual 87, 3) := by decide +kernel
theorem dX6_takesOut_6 : decode cX6_takesOut 6 = .ok (.ifCond .ne 5, 3) := by decide +kernel
theorem dX6_takesOut_9 : decode cX6_takesOut 9 = .ok (.iconst (-1), 1) := by decide +kernel
theorem dX6_takesOut_10 : decode cX6_takesOut 10 = .ok (.ireturn, 1) := by decide +kernel
theorem dX6_takesOut_11 : decode cX6_takesOut 11 = .ok (.aload_n 0, 1) := by decide +kernel
theorem dX6_takesOut_12 : decode cX6_takesOut 12 = .ok (.getfield 7, 3) := by decide +kernel
theorem dX6_takesOut_15 : decode cX6_takesOut 15 = .ok (.iload_n 1, 1) := by decide +kernel
theorem dX6_takesOut_16 : decode cX6_takesOut 16 = .ok (.bipush 9, 2) := by decide +kernel
theorem dX6_takesOut_18 : decode cX6_takesOut 18 = .ok (.iadd, 1) := by decide +kernel
theorem dX6_takesOut_19 : decode cX6_takesOut 19 = .ok (.iaload, 1) := by decide +kernel
theorem dX6_takesOut_20 : decode cX6_takesOut 20 = .ok (.iload_n 2, 1) := by decide +kernel
theorem dX6_takesOut_21 : decode cX6_takesOut 21 = .ok (.invokestatic 26, 3) := by decide +kernel
theorem dX6_takesOut_24 : decode cX6_takesOut 24 = .ok (.ifCond .ne 6, 3) := by decide +kernel
theorem dX6_takesOut_27 : decode cX6_takesOut 27 = .ok (.bipush (-6), 2) := by decide +kernel
theorem dX6_takesOut_29 : decode cX6_takesOut 29 = .ok (.ireturn, 1) := by decide +kernel
theorem dX6_takesOut_30 : decode cX6_takesOut 30 = .ok (.aload_n 0, 1) := by decide +kernel
theorem dX6_takesOut_31 : decode cX6_takesOut 31 = .ok (.getfield 7, 3) := by decide +kernel
theorem dX6_takesOut_34 : decode cX6_takesOut 34 = .ok (.iload_n 1, 1) := by decide +kernel
theorem dX6_takesOut_35 : decode cX6_takesOut 35 = .ok (.bipush 9, 2) := by decide +kernel
theorem dX6_takesOut_37 : decode cX6_takesOut 37 = .ok (.iadd, 1) := by decide +kernel
theorem dX6_takesOut_38 : decode cX6_takesOut 38 = .ok (.dup2, 1) := by decide +kernel
theorem dX6_takesOut_39 : decode cX6_takesOut 39 = .ok (.iaload, 1) := by decide +kernel
theorem dX6_takesOut_40 : decode cX6_takesOut 40 = .ok (.iconst 1, 1) := by decide +kernel
theorem dX6_takesOut_41 : decode cX6_takesOut 41 = .ok (.iload_n 2, 1) := by decide +kernel
theorem dX6_takesOut_42 : decode cX6_takesOut 42 = .ok (.ishl, 1) := by decide +kernel
theorem dX6_takesOut_43 : decode cX6_takesOut 43 = .ok (.isub, 1) := by decide +kernel
theorem dX6_takesOut_44 : decode cX6_takesOut 44 = .ok (.iastore, 1) := by decide +kernel
theorem dX6_takesOut_45 : decode cX6_takesOut 45 = .ok (.iconst 0, 1) := by decide +kernel
theorem dX6_takesOut_46 : decode cX6_takesOut 46 = .ok (.istore_n 3, 1) := by decide +kernel
theorem dX6_takesOut_47 : decode cX6_takesOut 47 = .ok (.iload_n 3, 1) := by decide +kernel
theorem dX6_takesOut_48 : decode cX6_takesOut 48 = .ok (.aload_n 0, 1) := by decide +kernel
theorem dX6_takesOut_49 : decode cX6_takesOut 49 = .ok (.iload_n 1, 1) := by decide +kernel
theorem dX6_takesOut_50 : decode cX6_takesOut 50 = .ok (.invokevirtual 30, 3) := by decide +kernel
theorem dX6_takesOut_53 : decode cX6_takesOut 53 = .ok (.if_icmp .ge 38, 3) := by decide +kernel
theorem dX6_takesOut_56 : decode cX6_takesOut 56 = .ok (.aload_n 0, 1) := by decide +kernel
theorem dX6_takesOut_57 : decode cX6_takesOut 57 = .ok (.iload_n 1, 1) := by decide +kernel
theorem dX6_takesOut_58 : decode cX6_takesOut 58 = .ok (.iload_n 3, 1) := by decide +kernel
theorem dX6_takesOut_59 : decode cX6_takesOut 59 = .ok (.iconst 2, 1) := by decide +kernel
theorem dX6_takesOut_60 : decode cX6_takesOut 60 = .ok (.aload_n 0, 1) := by decide +kernel
theorem dX6_takesOut_61 : decode cX6_takesOut 61 = .ok (.iload_n 1, 1) := by decide +kernel
theorem dX6_takesOut_62 : decode cX6_takesOut 62 = .ok (.iload_n 3, 1) := by decide +kernel
theorem dX6_takesOut_63 : decode cX6_takesOut 63 = .ok (.iconst 2, 1) := by decide +kernel
theorem dX6_takesOut_64 : decode cX6_takesOut 64 = .ok (.invokevirtual 41, 3) := by decide +kernel
theorem dX6_takesOut_67 : decode cX6_takesOut 67 = .ok (.iload_n 2, 1) := by decide +kernel
theorem dX6_takesOut_68 : decode cX6_takesOut 68 = .ok (.if_icmp .ne 7, 3) := by decide +kernel
theorem dX6_takesOut_71 : decode cX6_takesOut 71 = .ok (.iconst (-1), 1) := by decide +kernel
theorem dX6_takesOut_72 : decode cX6_takesOut 72 = .ok (.goto 10, 3) := by decide +kernel
theorem dX6_takesOut_75 : decode cX6_takesOut 75 = .ok (.aload_n 0, 1) := by decide +kernel
theorem dX6_takesOut_76 : decode cX6_takesOut 76 = .ok (.iload_n 1, 1) := by decide +kernel
theorem dX6_takesOut_77 : decode cX6_takesOut 77 = .ok (.iload_n 3, 1) := by decide +kernel
theorem dX6_takesOut_78 : decode cX6_takesOut 78 = .ok (.iconst 2, 1) := by decide +kernel
theorem dX6_takesOut_79 : decode cX6_takesOut 79 = .ok (.invokevirtual 41, 3) := by decide +kernel
theorem dX6_takesOut_82 : decode cX6_takesOut 82 = .ok (.invokevirtual 38, 3) := by decide +kernel
theorem dX6_takesOut_85 : decode cX6_takesOut 85 = .ok (.iinc 3 1, 3) := by decide +kernel
theorem dX6_takesOut_88 : decode cX6_takesOut 88 = .ok (.goto (-41), 3) := by decide +kernel
theorem dX6_takesOut_91 : decode cX6_takesOut 91 = .ok (.iconst 0, 1) := by decide +kernel
theorem dX6_takesOut_92 : decode cX6_takesOut 92 = .ok (.istore_n 3, 1) := by decide +kernel
theorem dX6_takesOut_93 : decode cX6_takesOut 93 = .ok (.aload_n 0, 1) := by decide +kernel
theorem dX6_takesOut_94 : decode cX6_takesOut 94 = .ok (.iload_n 1, 1) := by decide +kernel
theorem dX6_takesOut_95 : decode cX6_takesOut 95 = .ok (.invokevirtual 90, 3) := by decide +kernel
theorem dX6_takesOut_98 : decode cX6_takesOut 98 = .ok (.istore 4, 2) := by decide +kernel
theorem dX6_takesOut_100 : decode cX6_takesOut 100 = .ok (.iload 4, 2) := by decide +kernel
theorem dX6_takesOut_102 : decode cX6_takesOut 102 = .ok (.iconst (-1), 1) := by decide +kernel
theorem dX6_takesOut_103 : decode cX6_takesOut 103 = .ok (.if_icmp .eq 53, 3) := by decide +kernel
theorem dX6_takesOut_106 : decode cX6_takesOut 106 = .ok (.aload_n 0, 1) := by decide +kernel
theorem dX6_takesOut_107 : decode cX6_takesOut 107 = .ok (.iload_n 1, 1) := by decide +kernel
theorem dX6_takesOut_108 : decode cX6_takesOut 108 = .ok (.iload 4, 2) := by decide +kernel
theorem dX6_takesOut_110 : decode cX6_takesOut 110 = .ok (.invokevirtual 84, 3) := by decide +kernel
theorem dX6_takesOut_113 : decode cX6_takesOut 113 = .ok (.bipush (-4), 2) := by decide +kernel
theorem dX6_takesOut_115 : decode cX6_takesOut 115 = .ok (.if_icmp .ne 18, 3) := by decide +kernel
theorem dX6_takesOut_118 : decode cX6_takesOut 118 = .ok (.aload_n 0, 1) := by decide +kernel
theorem dX6_takesOut_119 : decode cX6_takesOut 119 = .ok (.iload_n 1, 1) := by decide +kernel
theorem dX6_takesOut_120 : decode cX6_takesOut 120 = .ok (.iload 4, 2) := by decide +kernel
theorem dX6_takesOut_122 : decode cX6_takesOut 122 = .ok (.iconst 0, 1) := by decide +kernel
theorem dX6_takesOut_123 : decode cX6_takesOut 123 = .ok (.iconst (-1), 1) := by decide +kernel
theorem dX6_takesOut_124 : decode cX6_takesOut 124 = .ok (.invokevirtual 38, 3) := by decide +kernel
theorem dX6_takesOut_127 : decode cX6_takesOut 127 = .ok (.iinc 3 1, 3) := by decide +kernel
theorem dX6_takesOut_130 : decode cX6_takesOut 130 = .ok (.goto 16, 3) := by decide +kernel
theorem dX6_takesOut_133 : decode cX6_takesOut 133 = .ok (.aload_n 0, 1) := by decide +kernel
theorem dX6_takesOut_134 : decode cX6_takesOut 134 = .ok (.getfield 7, 3) := by decide +kernel
theorem dX6_takesOut_137 : decode cX6_takesOut 137 = .ok (.iload_n 1, 1) := by decide +kernel
theorem dX6_takesOut_138 : decode cX6_takesOut 138 = .ok (.bipush 8, 2) := by decide +kernel
theorem dX6_takesOut_140 : decode cX6_takesOut 140 = .ok (.iadd, 1) := by decide +kernel
theorem dX6_takesOut_141 : decode cX6_takesOut 141 = .ok (.dup2, 1) := by decide +kernel
theorem dX6_takesOut_142 : decode cX6_takesOut 142 = .ok (.iaload, 1) := by decide +kernel
theorem dX6_takesOut_143 : decode cX6_takesOut 143 = .ok (.iconst 1, 1) := by decide +kernel
theorem dX6_takesOut_144 : decode cX6_takesOut 144 = .ok (.iadd, 1) := by decide +kernel
theorem dX6_takesOut_145 : decode cX6_takesOut 145 = .ok (.iastore, 1) := by decide +kernel
theorem dX6_takesOut_146 : decode cX6_takesOut 146 = .ok (.aload_n 0, 1) := by decide +kernel
theorem dX6_takesOut_147 : decode cX6_takesOut 147 = .ok (.iload_n 1, 1) := by decide +kernel
theorem dX6_takesOut_148 : decode cX6_takesOut 148 = .ok (.invokevirtual 90, 3) := by decide +kernel
theorem dX6_takesOut_151 : decode cX6_takesOut 151 = .ok (.istore 4, 2) := by decide +kernel
theorem dX6_takesOut_153 : decode cX6_takesOut 153 = .ok (.goto (-53), 3) := by decide +kernel
theorem dX6_takesOut_156 : decode cX6_takesOut 156 = .ok (.aload_n 0, 1) := by decide +kernel
theorem dX6_takesOut_157 : decode cX6_takesOut 157 = .ok (.getfield 7, 3) := by decide +kernel
theorem dX6_takesOut_160 : decode cX6_takesOut 160 = .ok (.iload_n 1, 1) := by decide +kernel
theorem dX6_takesOut_161 : decode cX6_takesOut 161 = .ok (.bipush 7, 2) := by decide +kernel
theorem dX6_takesOut_163 : decode cX6_takesOut 163 = .ok (.iadd, 1) := by decide +kernel
theorem dX6_takesOut_164 : decode cX6_takesOut 164 = .ok (.dup2, 1) := by decide +kernel
theorem dX6_takesOut_165 : decode cX6_takesOut 165 = .ok (.iaload, 1) := by decide +kernel
theorem dX6_takesOut_166 : decode cX6_takesOut 166 = .ok (.iload_n 3, 1) := by decide +kernel
theorem dX6_takesOut_167 : decode cX6_takesOut 167 = .ok (.iadd, 1) := by decide +kernel
theorem dX6_takesOut_168 : decode cX6_takesOut 168 = .ok (.iastore, 1) := by decide +kernel
theorem dX6_takesOut_169 : decode cX6_takesOut 169 = .ok (.iload_n 3, 1) := by decide +kernel
theorem dX6_takesOut_170 : decode cX6_takesOut 170 = .ok (.ireturn, 1) := by decide +kernel
set_option maxRecDepth 20000 in
theorem ggX6_putsBack_X6_isMiddle : GoodIn wsX6_putsBack wsX6_isMiddle := goodIn_r _ [6, 1, 7, 8, 5, 9, 16, 17, 18, 19, 20, 21, 22, 23, 24, 25, 26, 27] (by decide +kernel) (by decide +kernel)
set_option maxRecDepth 20000 in
theorem gX6_putsBack_X6_isMiddle : GoodIn wsX6_putsBack (wsV RX6 87 RX6 yX6_isMiddle wsX6_isMiddle) := goodIn_app (goodIn_of _ (by decide +kernel)) ggX6_putsBack_X6_isMiddle
set_option maxRecDepth 20000 in
theorem ggX6_putsBack_X6_has : GoodIn wsX6_putsBack wsX6_has := goodIn_r _ [12] (by decide +kernel) (by decide +kernel)
set_option maxRecDepth 20000 in
theorem gX6_putsBack_X6_has : GoodIn wsX6_putsBack (va_wsS RX6 26 yX6_has wsX6_has) := goodIn_app (goodIn_of _ (by decide +kernel)) ggX6_putsBack_X6_has
set_option maxRecDepth 20000 in
theorem ggX6_putsBack_X6_bits : GoodIn wsX6_putsBack wsX6_bits := goodIn_r _ [15] (by decide +kernel) (by decide +kernel)
set_option maxRecDepth 20000 in
theorem gX6_putsBack_X6_bits : GoodIn wsX6_putsBack (va_wsS RX6 93 yX6_bits wsX6_bits) := goodIn_app (goodIn_of _ (by decide +kernel)) ggX6_putsBack_X6_bits
theorem dX6_putsBack_0 : decode cX6_putsBack 0 = .ok (.aload_n 0, 1) := by decide +kernel
theorem dX6_putsBack_1 : decode cX6_putsBack 1 = .ok (.iload_n 1, 1) := by decide +kernel
theorem dX6_putsBack_2 : decode cX6_putsBack 2 = .ok (.iload_n 2, 1) := by decide +kernel
theorem dX6_putsBack_3 : decode cX6_putsBack 3 = .ok (.invokevirtual 87, 3) := by decide +kernel
theorem dX6_putsBack_6 : decode cX6_putsBack 6 = .ok (.ifCond .ne 5, 3) := by decide +kernel
theorem dX6_putsBack_9 : decode cX6_putsBack 9 = .ok (.iconst (-1), 1) := by decide +kernel
theorem dX6_putsBack_10 : decode cX6_putsBack 10 = .ok (.ireturn, 1) := by decide +kernel
theorem dX6_putsBack_11 : decode cX6_putsBack 11 = .ok (.aload_n 0, 1) := by decide +kernel
theorem dX6_putsBack_12 : decode cX6_putsBack 12 = .ok (.getfield 7, 3) := by decide +kernel
theorem dX6_putsBack_15 : decode cX6_putsBack 15 = .ok (.iload_n 1, 1) := by decide +kernel
theorem dX6_putsBack_16 : decode cX6_putsBack 16 = .ok (.bipush 9, 2) := by decide +kernel
theorem dX6_putsBack_18 : decode cX6_putsBack 18 = .ok (.iadd, 1) := by decide +kernel
theorem dX6_putsBack_19 : decode cX6_putsBack 19 = .ok (.iaload, 1) := by decide +kernel
theorem dX6_putsBack_20 : decode cX6_putsBack 20 = .ok (.iload_n 2, 1) := by decide +kernel
theorem dX6_putsBack_21 : decode cX6_putsBack 21 = .ok (.invokestatic 26, 3) := by decide +kernel
theorem dX6_putsBack_24 : decode cX6_putsBack 24 = .ok (.ifCond .eq 6, 3) := by decide +kernel
theorem dX6_putsBack_27 : decode cX6_putsBack 27 = .ok (.bipush (-6), 2) := by decide +kernel
theorem dX6_putsBack_29 : decode cX6_putsBack 29 = .ok (.ireturn, 1) := by decide +kernel
theorem dX6_putsBack_30 : decode cX6_putsBack 30 = .ok (.aload_n 0, 1) := by decide +kernel
theorem dX6_putsBack_31 : decode cX6_putsBack 31 = .ok (.getfield 7, 3) := by decide +kernel
theorem dX6_putsBack_34 : decode cX6_putsBack 34 = .ok (.iload_n 1, 1) := by decide +kernel
theorem dX6_putsBack_35 : decode cX6_putsBack 35 = .ok (.bipush 9, 2) := by decide +kernel
theorem dX6_putsBack_37 : decode cX6_putsBack 37 = .ok (.iadd, 1) := by decide +kernel
theorem dX6_putsBack_38 : decode cX6_putsBack 38 = .ok (.dup2, 1) := by decide +kernel
theorem dX6_putsBack_39 : decode cX6_putsBack 39 = .ok (.iaload, 1) := by decide +kernel
theorem dX6_putsBack_40 : decode cX6_putsBack 40 = .ok (.iconst 1, 1) := by decide +kernel
theorem dX6_putsBack_41 : decode cX6_putsBack 41 = .ok (.iload_n 2, 1) := by decide +kernel
theorem dX6_putsBack_42 : decode cX6_putsBack 42 = .ok (.ishl, 1) := by decide +kernel
theorem dX6_putsBack_43 : decode cX6_putsBack 43 = .ok (.iadd, 1) := by decide +kernel
theorem dX6_putsBack_44 : decode cX6_putsBack 44 = .ok (.iastore, 1) := by decide +kernel
theorem dX6_putsBack_45 : decode cX6_putsBack 45 = .ok (.aload_n 0, 1) := by decide +kernel
theorem dX6_putsBack_46 : decode cX6_putsBack 46 = .ok (.getfield 7, 3) := by decide +kernel
theorem dX6_putsBack_49 : decode cX6_putsBack 49 = .ok (.iload_n 1, 1) := by decide +kernel
theorem dX6_putsBack_50 : decode cX6_putsBack 50 = .ok (.bipush 9, 2) := by decide +kernel
theorem dX6_putsBack_52 : decode cX6_putsBack 52 = .ok (.iadd, 1) := by decide +kernel
theorem dX6_putsBack_53 : decode cX6_putsBack 53 = .ok (.iaload, 1) := by decide +kernel
theorem dX6_putsBack_54 : decode cX6_putsBack 54 = .ok (.invokestatic 93, 3) := by decide +kernel
theorem dX6_putsBack_57 : decode cX6_putsBack 57 = .ok (.ireturn, 1) := by decide +kernel
set_option maxRecDepth 20000 in
theorem ggX6_least_X6_lines : GoodIn wsX6_least wsX6_lines := goodIn_r _ [6, 1, 11, 12, 13, 14, 15, 16, 17, 18, 19, 20, 21, 22] (by decide +kernel) (by decide +kernel)
set_option maxRecDepth 20000 in
theorem gX6_least_X6_lines : GoodIn wsX6_least (wsV RX6 30 RX6 yX6_lines wsX6_lines) := goodIn_app (goodIn_of _ (by decide +kernel)) ggX6_least_X6_lines
set_option maxRecDepth 20000 in
theorem ggX6_least_X6_of : GoodIn wsX6_least wsX6_of := goodIn_r _ [10, 1, 11, 12, 13, 14, 15, 16, 17, 18, 19, 20, 21, 22] (by decide +kernel) (by decide +kernel)
set_option maxRecDepth 20000 in
theorem gX6_least_X6_of : GoodIn wsX6_least (wsV RX6 41 RX6 yX6_of wsX6_of) := goodIn_app (goodIn_of _ (by decide +kernel)) ggX6_least_X6_of
theorem dX6_least_0 : decode cX6_least 0 = .ok (.iconst 0, 1) := by decide +kernel
theorem dX6_least_1 : decode cX6_least 1 = .ok (.istore_n 2, 1) := by decide +kernel
theorem dX6_least_2 : decode cX6_least 2 = .ok (.iconst 0, 1) := by decide +kernel
theorem dX6_least_3 : decode cX6_least 3 = .ok (.istore_n 3, 1) := by decide +kernel
theorem dX6_least_4 : decode cX6_least 4 = .ok (.iload_n 3, 1) := by decide +kernel
theorem dX6_least_5 : decode cX6_least 5 = .ok (.aload_n 0, 1) := by decide +kernel
theorem dX6_least_6 : decode cX6_least 6 = .ok (.getfield 7, 3) := by decide +kernel
theorem dX6_least_9 : decode cX6_least 9 = .ok (.iload_n 1, 1) := by decide +kernel
theorem dX6_least_10 : decode cX6_least 10 = .ok (.iconst 0, 1) := by decide +kernel
theorem dX6_least_11 : decode cX6_least 11 = .ok (.iadd, 1) := by decide +kernel
theorem dX6_least_12 : decode cX6_least 12 = .ok (.iaload, 1) := by decide +kernel
theorem dX6_least_13 : decode cX6_least 13 = .ok (.if_icmp .ge 145, 3) := by decide +kernel
theorem dX6_least_16 : decode cX6_least 16 = .ok (.iconst 0, 1) := by decide +kernel
theorem dX6_least_17 : decode cX6_least 17 = .ok (.istore 4, 2) := by decide +kernel
theorem dX6_least_19 : decode cX6_least 19 = .ok (.iconst 0, 1) := by decide +kernel
theorem dX6_least_20 : decode cX6_least 20 = .ok (.istore 5, 2) := by decide +kernel
theorem dX6_least_22 : decode cX6_least 22 = .ok (.iconst 0, 1) := by decide +kernel
theorem dX6_least_23 : decode cX6_least 23 = .ok (.istore 6, 2) := by decide +kernel
theorem dX6_least_25 : decode cX6_least 25 = .ok (.iload 6, 2) := by decide +kernel
theorem dX6_least_27 : decode cX6_least 27 = .ok (.aload_n 0, 1) := by decide +kernel
theorem dX6_least_28 : decode cX6_least 28 = .ok (.iload_n 1, 1) := by decide +kernel
theorem dX6_least_29 : decode cX6_least 29 = .ok (.invokevirtual 30, 3) := by decide +kernel
theorem dX6_least_32 : decode cX6_least 32 = .ok (.if_icmp .ge 94, 3) := by decide +kernel
theorem dX6_least_35 : decode cX6_least 35 = .ok (.aload_n 0, 1) := by decide +kernel
theorem dX6_least_36 : decode cX6_least 36 = .ok (.iload_n 1, 1) := by decide +kernel
theorem dX6_least_37 : decode cX6_least 37 = .ok (.iload 6, 2) := by decide +kernel
theorem dX6_least_39 : decode cX6_least 39 = .ok (.iconst 0, 1) := by decide +kernel
theorem dX6_least_40 : decode cX6_least 40 = .ok (.invokevirtual 41, 3) := by decide +kernel
theorem dX6_least_43 : decode cX6_least 43 = .ok (.iconst (-1), 1) := by decide +kernel
theorem dX6_least_44 : decode cX6_least 44 = .ok (.if_icmp .eq 7, 3) := by decide +kernel
theorem dX6_least_47 : decode cX6_least 47 = .ok (.iconst 1, 1) := by decide +kernel
theorem dX6_least_48 : decode cX6_least 48 = .ok (.goto 4, 3) := by decide +kernel
theorem dX6_least_51 : decode cX6_least 51 = .ok (.iconst 0, 1) := by decide +kernel
theorem dX6_least_52 : decode cX6_least 52 = .ok (.istore 7, 2) := by decide +kernel
theorem dX6_least_54 : decode cX6_least 54 = .ok (.iload 4, 2) := by decide +kernel
theorem dX6_least_56 : decode cX6_least 56 = .ok (.iload 7, 2) := by decide +kernel
theorem dX6_least_58 : decode cX6_least 58 = .ok (.ifCond .eq 22, 3) := by decide +kernel
theorem dX6_least_61 : decode cX6_least 61 = .ok (.iload 6, 2) := by decide +kernel
theorem dX6_least_63 : decode cX6_least 63 = .ok (.aload_n 0, 1) := by decide +kernel
theorem dX6_least_64 : decode cX6_least 64 = .ok (.getfield 7, 3) := by decide +kernel
theorem dX6_least_67 : decode cX6_least 67 = .ok (.iload_n 1, 1) := by decide +kernel
theorem dX6_least_68 : decode cX6_least 68 = .ok (.iconst 1, 1) := by decide +kernel
theorem dX6_least_69 : decode cX6_least 69 = .ok (.iadd, 1) := by decide +kernel
theorem dX6_least_70 : decode cX6_least 70 = .ok (.iaload, 1) := by decide +kernel
theorem dX6_least_71 : decode cX6_least 71 = .ok (.idiv, 1) := by decide +kernel
theorem dX6_least_72 : decode cX6_least 72 = .ok (.iload_n 3, 1) := by decide +kernel
theorem dX6_least_73 : decode cX6_least 73 = .ok (.if_icmp .ne 7, 3) := by decide +kernel
theorem dX6_least_76 : decode cX6_least 76 = .ok (.iconst 1, 1) := by decide +kernel
theorem dX6_least_77 : decode cX6_least 77 = .ok (.goto 4, 3) := by decide +kernel
theorem dX6_least_80 : decode cX6_least 80 = .ok (.iconst 0, 1) := by decide +kernel
theorem dX6_least_81 : decode cX6_least 81 = .ok (.iadd, 1) := by decide +kernel
theorem dX6_least_82 : decode cX6_least 82 = .ok (.istore 4, 2) := by decide +kernel
theorem dX6_least_84 : decode cX6_least 84 = .ok (.iload 5, 2) := by decide +kernel
theorem dX6_least_86 : decode cX6_least 86 = .ok (.iload 7, 2) := by decide +kernel
theorem dX6_least_88 : decode cX6_least 88 = .ok (.ifCond .eq 28, 3) := by decide +kernel
theorem dX6_least_91 : decode cX6_least 91 = .ok (.aload_n 0, 1) := by decide +kernel
theorem dX6_least_92 : decode cX6_least 92 = .ok (.iload_n 1, 1) := by decide +kernel
theorem dX6_least_93 : decode cX6_least 93 = .ok (.iload 6, 2) := by decide +kernel
theorem dX6_least_95 : decode cX6_least 95 = .ok (.iconst 1, 1) := by decide +kernel
theorem dX6_least_96 : decode cX6_least 96 = .ok (.invokevirtual 41, 3) := by decide +kernel
theorem dX6_least_99 : decode cX6_least 99 = .ok (.aload_n 0, 1) := by decide +kernel
theorem dX6_least_100 : decode cX6_least 100 = .ok (.getfield 7, 3) := by decide +kernel
theorem dX6_least_103 : decode cX6_least 103 = .ok (.iload_n 1, 1) := by decide +kernel
theorem dX6_least_104 : decode cX6_least 104 = .ok (.iconst 1, 1) := by decide +kernel
theorem dX6_least_105 : decode cX6_least 105 = .ok (.iadd, 1) := by decide +kernel
theorem dX6_least_106 : decode cX6_least 106 = .ok (.iaload, 1) := by decide +kernel
theorem dX6_least_107 : decode cX6_least 107 = .ok (.idiv, 1) := by decide +kernel
theorem dX6_least_108 : decode cX6_least 108 = .ok (.iload_n 3, 1) := by decide +kernel
theorem dX6_least_109 : decode cX6_least 109 = .ok (.if_icmp .ne 7, 3) := by decide +kernel
theorem dX6_least_112 : decode cX6_least 112 = .ok (.iconst 1, 1) := by decide +kernel
theorem dX6_least_113 : decode cX6_least 113 = .ok (.goto 4, 3) := by decide +kernel
theorem dX6_least_116 : decode cX6_least 116 = .ok (.iconst 0, 1) := by decide +kernel
theorem dX6_least_117 : decode cX6_least 117 = .ok (.iadd, 1) := by decide +kernel
theorem dX6_least_118 : decode cX6_least 118 = .ok (.istore 5, 2) := by decide +kernel
theorem dX6_least_120 : decode cX6_least 120 = .ok (.iinc 6 1, 3) := by decide +kernel
theorem dX6_least_123 : decode cX6_least 123 = .ok (.goto (-98), 3) := by decide +kernel
theorem dX6_least_126 : decode cX6_least 126 = .ok (.iload 4, 2) := by decide +kernel
theorem dX6_least_128 : decode cX6_least 128 = .ok (.iload_n 2, 1) := by decide +kernel
theorem dX6_least_129 : decode cX6_least 129 = .ok (.if_icmp .le 8, 3) := by decide +kernel
theorem dX6_least_132 : decode cX6_least 132 = .ok (.iload 4, 2) := by decide +kernel
theorem dX6_least_134 : decode cX6_least 134 = .ok (.goto 4, 3) := by decide +kernel
theorem dX6_least_137 : decode cX6_least 137 = .ok (.iload_n 2, 1) := by decide +kernel
theorem dX6_least_138 : decode cX6_least 138 = .ok (.istore_n 2, 1) := by decide +kernel
theorem dX6_least_139 : decode cX6_least 139 = .ok (.iload 5, 2) := by decide +kernel
theorem dX6_least_141 : decode cX6_least 141 = .ok (.iload_n 2, 1) := by decide +kernel
theorem dX6_least_142 : decode cX6_least 142 = .ok (.if_icmp .le 8, 3) := by decide +kernel
theorem dX6_least_145 : decode cX6_least 145 = .ok (.iload 5, 2) := by decide +kernel
theorem dX6_least_147 : decode cX6_least 147 = .ok (.goto 4, 3) := by decide +kernel
theorem dX6_least_150 : decode cX6_least 150 = .ok (.iload_n 2, 1) := by decide +kernel
theorem dX6_least_151 : decode cX6_least 151 = .ok (.istore_n 2, 1) := by decide +kernel
theorem dX6_least_152 : decode cX6_least 152 = .ok (.iinc 3 1, 3) := by decide +kernel
theorem dX6_least_155 : decode cX6_least 155 = .ok (.goto (-151), 3) := by decide +kernel
theorem dX6_least_158 : decode cX6_least 158 = .ok (.iload_n 2, 1) := by decide +kernel
theorem dX6_least_159 : decode cX6_least 159 = .ok (.ireturn, 1) := by decide +kernel
set_option maxRecDepth 20000 in
theorem ggX6_packs_X6_calls : GoodIn wsX6_packs wsX6_calls := goodIn_r _ [7, 8, 9, 10, 6, 11, 1, 12, 13, 14, 15, 75, 76, 77, 78, 79, 80, 81, 82, 83, 84, 85, 86] (by decide +kernel) (by decide +kernel)
set_option maxRecDepth 20000 in
theorem gX6_packs_X6_calls : GoodIn wsX6_packs (wsV RX6 96 RX6 yX6_calls wsX6_calls) := goodIn_app (goodIn_of _ (by decide +kernel)) ggX6_packs_X6_calls
set_option maxRecDepth 20000 in
theorem ggX6_packs_X6_least : GoodIn wsX6_packs wsX6_least := goodIn_r _ [19, 1, 8, 9, 10, 6, 11, 12, 13, 14, 15, 75, 76, 77, 78, 79, 80, 81, 82, 83, 84, 85, 86] (by decide +kernel) (by decide +kernel)
set_option maxRecDepth 20000 in
theorem gX6_packs_X6_least : GoodIn wsX6_packs (wsV RX6 99 RX6 yX6_least wsX6_least) := goodIn_app (goodIn_of _ (by decide +kernel)) ggX6_packs_X6_least
set_option maxRecDepth 20000 in
theorem ggX6_packs_X6_has : GoodIn wsX6_packs wsX6_has := goodIn_r _ [22] (by decide +kernel) (by decide +kernel)
set_option maxRecDepth 20000 in
theorem gX6_packs_X6_has : GoodIn wsX6_packs (va_wsS RX6 26 yX6_has wsX6_has) := goodIn_app (goodIn_of _ (by decide +kernel)) ggX6_packs_X6_has
set_option maxRecDepth 20000 in
theorem ggX6_packs_X6_bits : GoodIn wsX6_packs wsX6_bits := goodIn_r _ [25] (by decide +kernel) (by decide +kernel)
set_option maxRecDepth 20000 in
theorem gX6_packs_X6_bits : GoodIn wsX6_packs (va_wsS RX6 93 yX6_bits wsX6_bits) := goodIn_app (goodIn_of _ (by decide +kernel)) ggX6_packs_X6_bits
set_option maxRecDepth 20000 in
theorem ggX6_packs_X6_lines : GoodIn wsX6_packs wsX6_lines := goodIn_r _ [11, 1, 75, 76, 77, 78, 79, 80, 81, 82, 83, 84, 85, 86] (by decide +kernel) (by decide +kernel)
set_option maxRecDepth 20000 in
theorem gX6_packs_X6_lines : GoodIn wsX6_packs (wsV RX6 30 RX6 yX6_lines wsX6_lines) := goodIn_app (goodIn_of _ (by decide +kernel)) ggX6_packs_X6_lines
set_option maxRecDepth 20000 in
theorem ggX6_packs_X6_of : GoodIn wsX6_packs wsX6_of := goodIn_r _ [15, 1, 75, 76, 77, 78, 79, 80, 81, 82, 83, 84, 85, 86] (by decide +kernel) (by decide +kernel)
set_option maxRecDepth 20000 in
theorem gX6_packs_X6_of : GoodIn wsX6_packs (wsV RX6 41 RX6 yX6_of wsX6_of) := goodIn_app (goodIn_of _ (by decide +kernel)) ggX6_packs_X6_of
set_option maxRecDepth 20000 in
theorem ggX6_packs_X6_lay : GoodIn wsX6_packs wsX6_lay := goodIn_r _ [29, 1, 75, 76, 77, 78, 79, 80, 81, 82, 83, 84, 85, 86] (by decide +kernel) (by decide +kernel)
set_option maxRecDepth 20000 in
theorem gX6_packs_X6_lay : GoodIn wsX6_packs (wsV RX6 38 RX6 yX6_lay wsX6_lay) := goodIn_app (goodIn_of _ (by decide +kernel)) ggX6_packs_X6_lay
set_option maxRecDepth 20000 in
theorem ggX6_packs_X6_nextOff : GoodIn wsX6_packs wsX6_nextOff := goodIn_r _ [33, 8, 9, 10, 6, 11, 1, 12, 13, 14, 15, 75, 76, 77, 78, 79, 80, 81, 82, 83, 84, 85, 86] (by decide +kernel) (by decide +kernel)
set_option maxRecDepth 20000 in
theorem gX6_packs_X6_nextOff : GoodIn wsX6_packs (wsV RX6 90 RX6 yX6_nextOff wsX6_nextOff) := goodIn_app (goodIn_of _ (by decide +kernel)) ggX6_packs_X6_nextOff
set_option maxRecDepth 20000 in
theorem ggX6_packs_X6_routes : GoodIn wsX6_packs wsX6_routes := goodIn_r _ [37, 1, 38, 39, 12, 13, 14, 6, 15, 40, 41, 42, 43, 20, 21, 22, 44, 45, 46, 47, 8, 9, 10, 11, 48, 49, 50, 51, 52, 53, 54, 55, 56, 57, 58, 59, 60, 61, 62, 63, 64, 65, 66, 26, 27, 28, 29, 67, 68, 69, 70, 71, 72, 73, 74, 75, 76, 77, 78, 79, 80, 81, 82, 83, 84, 85, 86] (by decide +kernel) (by decide +kernel)
set_option maxRecDepth 20000 in
theorem gX6_packs_X6_routes : GoodIn wsX6_packs (wsV RX6 84 RX6 yX6_routes wsX6_routes) := goodIn_app (goodIn_of _ (by decide +kernel)) ggX6_packs_X6_routes
theorem dX6_packs_0 : decode cX6_packs 0 = .ok (.aload_n 0, 1) := by decide +kernel
theorem dX6_packs_1 : decode cX6_packs 1 = .ok (.iload_n 1, 1) := by decide +kernel
theorem dX6_packs_2 : decode cX6_packs 2 = .ok (.invokevirtual 96, 3) := by decide +kernel
theorem dX6_packs_5 : decode cX6_packs 5 = .ok (.ifCond .ne 6, 3) := by decide +kernel
end
section
theorem dX6_packs_8 : decode cX6_packs 8 = .ok (.bipush (-6), 2) := by decide +kernel
theorem dX6_packs_10 : decode cX6_packs 10 = .ok (.ireturn, 1) := by decide +kernel
theorem dX6_packs_11 : decode cX6_packs 11 = .ok (.aload_n 0, 1) := by decide +kernel
theorem dX6_packs_12 : decode cX6_packs 12 = .ok (.getfield 7, 3) := by decide +kernel
theorem dX6_packs_15 : decode cX6_packs 15 = .ok (.iload_n 1, 1) := by decide +kernel
theorem dX6_packs_16 : decode cX6_packs 16 = .ok (.bipush 9, 2) := by decide +kernel
theorem dX6_packs_18 : decode cX6_packs 18 = .ok (.iadd, 1) := by decide +kernel
theorem dX6_packs_19 : decode cX6_packs 19 = .ok (.iaload, 1) := by decide +kernel
theorem dX6_packs_20 : decode cX6_packs 20 = .ok (.istore_n 2, 1) := by decide +kernel
theorem dX6_packs_21 : decode cX6_packs 21 = .ok (.aload_n 0, 1) := by decide +kernel
theorem dX6_packs_22 : decode cX6_packs 22 = .ok (.getfield 7, 3) := by decide +kernel
theorem dX6_packs_25 : decode cX6_packs 25 = .ok (.iload_n 1, 1) := by decide +kernel
theorem dX6_packs_26 : decode cX6_packs 26 = .ok (.bipush 8, 2) := by decide +kernel
theorem dX6_packs_28 : decode cX6_packs 28 = .ok (.iadd, 1) := by decide +kernel
theorem dX6_packs_29 : decode cX6_packs 29 = .ok (.iaload, 1) := by decide +kernel
theorem dX6_packs_30 : decode cX6_packs 30 = .ok (.istore_n 3, 1) := by decide +kernel
theorem dX6_packs_31 : decode cX6_packs 31 = .ok (.aload_n 0, 1) := by decide +kernel
theorem dX6_packs_32 : decode cX6_packs 32 = .ok (.iload_n 1, 1) := by decide +kernel
theorem dX6_packs_33 : decode cX6_packs 33 = .ok (.invokevirtual 99, 3) := by decide +kernel
theorem dX6_packs_36 : decode cX6_packs 36 = .ok (.istore 4, 2) := by decide +kernel
theorem dX6_packs_38 : decode cX6_packs 38 = .ok (.aload_n 0, 1) := by decide +kernel
theorem dX6_packs_39 : decode cX6_packs 39 = .ok (.getfield 7, 3) := by decide +kernel
theorem dX6_packs_42 : decode cX6_packs 42 = .ok (.iload_n 1, 1) := by decide +kernel
theorem dX6_packs_43 : decode cX6_packs 43 = .ok (.bipush 9, 2) := by decide +kernel
theorem dX6_packs_45 : decode cX6_packs 45 = .ok (.iadd, 1) := by decide +kernel
theorem dX6_packs_46 : decode cX6_packs 46 = .ok (.iconst 0, 1) := by decide +kernel
theorem dX6_packs_47 : decode cX6_packs 47 = .ok (.iastore, 1) := by decide +kernel
theorem dX6_packs_48 : decode cX6_packs 48 = .ok (.iconst 0, 1) := by decide +kernel
theorem dX6_packs_49 : decode cX6_packs 49 = .ok (.istore 5, 2) := by decide +kernel
theorem dX6_packs_51 : decode cX6_packs 51 = .ok (.iload 5, 2) := by decide +kernel
theorem dX6_packs_53 : decode cX6_packs 53 = .ok (.bipush 8, 2) := by decide +kernel
theorem dX6_packs_55 : decode cX6_packs 55 = .ok (.if_icmp .ge 55, 3) := by decide +kernel
theorem dX6_packs_58 : decode cX6_packs 58 = .ok (.aload_n 0, 1) := by decide +kernel
theorem dX6_packs_59 : decode cX6_packs 59 = .ok (.getfield 7, 3) := by decide +kernel
theorem dX6_packs_62 : decode cX6_packs 62 = .ok (.iload_n 1, 1) := by decide +kernel
theorem dX6_packs_63 : decode cX6_packs 63 = .ok (.bipush 9, 2) := by decide +kernel
theorem dX6_packs_65 : decode cX6_packs 65 = .ok (.iadd, 1) := by decide +kernel
theorem dX6_packs_66 : decode cX6_packs 66 = .ok (.dup2, 1) := by decide +kernel
theorem dX6_packs_67 : decode cX6_packs 67 = .ok (.iaload, 1) := by decide +kernel
theorem dX6_packs_68 : decode cX6_packs 68 = .ok (.iload_n 2, 1) := by decide +kernel
theorem dX6_packs_69 : decode cX6_packs 69 = .ok (.iload 5, 2) := by decide +kernel
theorem dX6_packs_71 : decode cX6_packs 71 = .ok (.invokestatic 26, 3) := by decide +kernel
theorem dX6_packs_74 : decode cX6_packs 74 = .ok (.ifCond .eq 27, 3) := by decide +kernel
theorem dX6_packs_77 : decode cX6_packs 77 = .ok (.aload_n 0, 1) := by decide +kernel
theorem dX6_packs_78 : decode cX6_packs 78 = .ok (.getfield 7, 3) := by decide +kernel
theorem dX6_packs_81 : decode cX6_packs 81 = .ok (.iload_n 1, 1) := by decide +kernel
theorem dX6_packs_82 : decode cX6_packs 82 = .ok (.bipush 9, 2) := by decide +kernel
theorem dX6_packs_84 : decode cX6_packs 84 = .ok (.iadd, 1) := by decide +kernel
theorem dX6_packs_85 : decode cX6_packs 85 = .ok (.iaload, 1) := by decide +kernel
theorem dX6_packs_86 : decode cX6_packs 86 = .ok (.invokestatic 93, 3) := by decide +kernel
theorem dX6_packs_89 : decode cX6_packs 89 = .ok (.iload 4, 2) := by decide +kernel
theorem dX6_packs_91 : decode cX6_packs 91 = .ok (.if_icmp .ge 10, 3) := by decide +kernel
theorem dX6_packs_94 : decode cX6_packs 94 = .ok (.iconst 1, 1) := by decide +kernel
theorem dX6_packs_95 : decode cX6_packs 95 = .ok (.iload 5, 2) := by decide +kernel
theorem dX6_packs_97 : decode cX6_packs 97 = .ok (.ishl, 1) := by decide +kernel
theorem dX6_packs_98 : decode cX6_packs 98 = .ok (.goto 4, 3) := by decide +kernel
theorem dX6_packs_101 : decode cX6_packs 101 = .ok (.iconst 0, 1) := by decide +kernel
theorem dX6_packs_102 : decode cX6_packs 102 = .ok (.ior, 1) := by decide +kernel
theorem dX6_packs_103 : decode cX6_packs 103 = .ok (.iastore, 1) := by decide +kernel
theorem dX6_packs_104 : decode cX6_packs 104 = .ok (.iinc 5 1, 3) := by decide +kernel
theorem dX6_packs_107 : decode cX6_packs 107 = .ok (.goto (-56), 3) := by decide +kernel
theorem dX6_packs_110 : decode cX6_packs 110 = .ok (.iconst 0, 1) := by decide +kernel
theorem dX6_packs_111 : decode cX6_packs 111 = .ok (.istore 5, 2) := by decide +kernel
theorem dX6_packs_113 : decode cX6_packs 113 = .ok (.iload 5, 2) := by decide +kernel
theorem dX6_packs_115 : decode cX6_packs 115 = .ok (.aload_n 0, 1) := by decide +kernel
theorem dX6_packs_116 : decode cX6_packs 116 = .ok (.iload_n 1, 1) := by decide +kernel
theorem dX6_packs_117 : decode cX6_packs 117 = .ok (.invokevirtual 30, 3) := by decide +kernel
theorem dX6_packs_120 : decode cX6_packs 120 = .ok (.if_icmp .ge 33, 3) := by decide +kernel
theorem dX6_packs_123 : decode cX6_packs 123 = .ok (.aload_n 0, 1) := by decide +kernel
theorem dX6_packs_124 : decode cX6_packs 124 = .ok (.getfield 19, 3) := by decide +kernel
theorem dX6_packs_127 : decode cX6_packs 127 = .ok (.iload 5, 2) := by decide +kernel
theorem dX6_packs_129 : decode cX6_packs 129 = .ok (.aload_n 0, 1) := by decide +kernel
theorem dX6_packs_130 : decode cX6_packs 130 = .ok (.iload_n 1, 1) := by decide +kernel
theorem dX6_packs_131 : decode cX6_packs 131 = .ok (.iload 5, 2) := by decide +kernel
theorem dX6_packs_133 : decode cX6_packs 133 = .ok (.iconst 2, 1) := by decide +kernel
theorem dX6_packs_134 : decode cX6_packs 134 = .ok (.invokevirtual 41, 3) := by decide +kernel
theorem dX6_packs_137 : decode cX6_packs 137 = .ok (.iastore, 1) := by decide +kernel
theorem dX6_packs_138 : decode cX6_packs 138 = .ok (.aload_n 0, 1) := by decide +kernel
theorem dX6_packs_139 : decode cX6_packs 139 = .ok (.iload_n 1, 1) := by decide +kernel
theorem dX6_packs_140 : decode cX6_packs 140 = .ok (.iload 5, 2) := by decide +kernel
theorem dX6_packs_142 : decode cX6_packs 142 = .ok (.iconst 2, 1) := by decide +kernel
theorem dX6_packs_143 : decode cX6_packs 143 = .ok (.iconst (-1), 1) := by decide +kernel
theorem dX6_packs_144 : decode cX6_packs 144 = .ok (.invokevirtual 38, 3) := by decide +kernel
theorem dX6_packs_147 : decode cX6_packs 147 = .ok (.iinc 5 1, 3) := by decide +kernel
theorem dX6_packs_150 : decode cX6_packs 150 = .ok (.goto (-37), 3) := by decide +kernel
theorem dX6_packs_153 : decode cX6_packs 153 = .ok (.aload_n 0, 1) := by decide +kernel
theorem dX6_packs_154 : decode cX6_packs 154 = .ok (.iload_n 1, 1) := by decide +kernel
theorem dX6_packs_155 : decode cX6_packs 155 = .ok (.invokevirtual 90, 3) := by decide +kernel
theorem dX6_packs_158 : decode cX6_packs 158 = .ok (.istore 5, 2) := by decide +kernel
theorem dX6_packs_160 : decode cX6_packs 160 = .ok (.iload 5, 2) := by decide +kernel
theorem dX6_packs_162 : decode cX6_packs 162 = .ok (.iconst (-1), 1) := by decide +kernel
theorem dX6_packs_163 : decode cX6_packs 163 = .ok (.if_icmp .eq 25, 3) := by decide +kernel
theorem dX6_packs_166 : decode cX6_packs 166 = .ok (.aload_n 0, 1) := by decide +kernel
theorem dX6_packs_167 : decode cX6_packs 167 = .ok (.iload_n 1, 1) := by decide +kernel
theorem dX6_packs_168 : decode cX6_packs 168 = .ok (.iload 5, 2) := by decide +kernel
theorem dX6_packs_170 : decode cX6_packs 170 = .ok (.invokevirtual 84, 3) := by decide +kernel
theorem dX6_packs_173 : decode cX6_packs 173 = .ok (.bipush (-4), 2) := by decide +kernel
theorem dX6_packs_175 : decode cX6_packs 175 = .ok (.if_icmp .eq 13, 3) := by decide +kernel
theorem dX6_packs_178 : decode cX6_packs 178 = .ok (.aload_n 0, 1) := by decide +kernel
theorem dX6_packs_179 : decode cX6_packs 179 = .ok (.iload_n 1, 1) := by decide +kernel
theorem dX6_packs_180 : decode cX6_packs 180 = .ok (.invokevirtual 90, 3) := by decide +kernel
theorem dX6_packs_183 : decode cX6_packs 183 = .ok (.istore 5, 2) := by decide +kernel
theorem dX6_packs_185 : decode cX6_packs 185 = .ok (.goto (-25), 3) := by decide +kernel
theorem dX6_packs_188 : decode cX6_packs 188 = .ok (.iconst 0, 1) := by decide +kernel
theorem dX6_packs_189 : decode cX6_packs 189 = .ok (.istore 6, 2) := by decide +kernel
theorem dX6_packs_191 : decode cX6_packs 191 = .ok (.iconst 0, 1) := by decide +kernel
theorem dX6_packs_192 : decode cX6_packs 192 = .ok (.istore 7, 2) := by decide +kernel
theorem dX6_packs_194 : decode cX6_packs 194 = .ok (.iload 7, 2) := by decide +kernel
theorem dX6_packs_196 : decode cX6_packs 196 = .ok (.aload_n 0, 1) := by decide +kernel
theorem dX6_packs_197 : decode cX6_packs 197 = .ok (.iload_n 1, 1) := by decide +kernel
theorem dX6_packs_198 : decode cX6_packs 198 = .ok (.invokevirtual 30, 3) := by decide +kernel
theorem dX6_packs_201 : decode cX6_packs 201 = .ok (.if_icmp .ge 49, 3) := by decide +kernel
theorem dX6_packs_204 : decode cX6_packs 204 = .ok (.iload 6, 2) := by decide +kernel
theorem dX6_packs_206 : decode cX6_packs 206 = .ok (.aload_n 0, 1) := by decide +kernel
theorem dX6_packs_207 : decode cX6_packs 207 = .ok (.iload_n 1, 1) := by decide +kernel
theorem dX6_packs_208 : decode cX6_packs 208 = .ok (.iload 7, 2) := by decide +kernel
theorem dX6_packs_210 : decode cX6_packs 210 = .ok (.iconst 0, 1) := by decide +kernel
theorem dX6_packs_211 : decode cX6_packs 211 = .ok (.invokevirtual 41, 3) := by decide +kernel
theorem dX6_packs_214 : decode cX6_packs 214 = .ok (.iconst (-1), 1) := by decide +kernel
theorem dX6_packs_215 : decode cX6_packs 215 = .ok (.if_icmp .eq 25, 3) := by decide +kernel
theorem dX6_packs_218 : decode cX6_packs 218 = .ok (.aload_n 0, 1) := by decide +kernel
theorem dX6_packs_219 : decode cX6_packs 219 = .ok (.iload_n 1, 1) := by decide +kernel
theorem dX6_packs_220 : decode cX6_packs 220 = .ok (.iload 7, 2) := by decide +kernel
theorem dX6_packs_222 : decode cX6_packs 222 = .ok (.iconst 2, 1) := by decide +kernel
theorem dX6_packs_223 : decode cX6_packs 223 = .ok (.invokevirtual 41, 3) := by decide +kernel
theorem dX6_packs_226 : decode cX6_packs 226 = .ok (.aload_n 0, 1) := by decide +kernel
theorem dX6_packs_227 : decode cX6_packs 227 = .ok (.getfield 19, 3) := by decide +kernel
theorem dX6_packs_230 : decode cX6_packs 230 = .ok (.iload 7, 2) := by decide +kernel
theorem dX6_packs_232 : decode cX6_packs 232 = .ok (.iaload, 1) := by decide +kernel
theorem dX6_packs_233 : decode cX6_packs 233 = .ok (.if_icmp .eq 7, 3) := by decide +kernel
theorem dX6_packs_236 : decode cX6_packs 236 = .ok (.iconst 1, 1) := by decide +kernel
theorem dX6_packs_237 : decode cX6_packs 237 = .ok (.goto 4, 3) := by decide +kernel
theorem dX6_packs_240 : decode cX6_packs 240 = .ok (.iconst 0, 1) := by decide +kernel
theorem dX6_packs_241 : decode cX6_packs 241 = .ok (.iadd, 1) := by decide +kernel
theorem dX6_packs_242 : decode cX6_packs 242 = .ok (.istore 6, 2) := by decide +kernel
theorem dX6_packs_244 : decode cX6_packs 244 = .ok (.iinc 7 1, 3) := by decide +kernel
theorem dX6_packs_247 : decode cX6_packs 247 = .ok (.goto (-53), 3) := by decide +kernel
theorem dX6_packs_250 : decode cX6_packs 250 = .ok (.aload_n 0, 1) := by decide +kernel
theorem dX6_packs_251 : decode cX6_packs 251 = .ok (.getfield 7, 3) := by decide +kernel
theorem dX6_packs_254 : decode cX6_packs 254 = .ok (.iload_n 1, 1) := by decide +kernel
theorem dX6_packs_255 : decode cX6_packs 255 = .ok (.bipush 9, 2) := by decide +kernel
theorem dX6_packs_257 : decode cX6_packs 257 = .ok (.iadd, 1) := by decide +kernel
theorem dX6_packs_258 : decode cX6_packs 258 = .ok (.iload_n 2, 1) := by decide +kernel
theorem dX6_packs_259 : decode cX6_packs 259 = .ok (.iastore, 1) := by decide +kernel
theorem dX6_packs_260 : decode cX6_packs 260 = .ok (.aload_n 0, 1) := by decide +kernel
theorem dX6_packs_261 : decode cX6_packs 261 = .ok (.getfield 7, 3) := by decide +kernel
theorem dX6_packs_264 : decode cX6_packs 264 = .ok (.iload_n 1, 1) := by decide +kernel
theorem dX6_packs_265 : decode cX6_packs 265 = .ok (.bipush 8, 2) := by decide +kernel
theorem dX6_packs_267 : decode cX6_packs 267 = .ok (.iadd, 1) := by decide +kernel
theorem dX6_packs_268 : decode cX6_packs 268 = .ok (.iload_n 3, 1) := by decide +kernel
theorem dX6_packs_269 : decode cX6_packs 269 = .ok (.iload 6, 2) := by decide +kernel
theorem dX6_packs_271 : decode cX6_packs 271 = .ok (.iadd, 1) := by decide +kernel
theorem dX6_packs_272 : decode cX6_packs 272 = .ok (.iastore, 1) := by decide +kernel
theorem dX6_packs_273 : decode cX6_packs 273 = .ok (.iload 6, 2) := by decide +kernel
theorem dX6_packs_275 : decode cX6_packs 275 = .ok (.ireturn, 1) := by decide +kernel
theorem dX6_copies_0 : decode cX6_copies 0 = .ok (.iconst 0, 1) := by decide +kernel
theorem dX6_copies_1 : decode cX6_copies 1 = .ok (.istore_n 3, 1) := by decide +kernel
theorem dX6_copies_2 : decode cX6_copies 2 = .ok (.iload_n 3, 1) := by decide +kernel
theorem dX6_copies_3 : decode cX6_copies 3 = .ok (.sipush 154, 3) := by decide +kernel
theorem dX6_copies_6 : decode cX6_copies 6 = .ok (.if_icmp .ge 33, 3) := by decide +kernel
theorem dX6_copies_9 : decode cX6_copies 9 = .ok (.aload_n 0, 1) := by decide +kernel
theorem dX6_copies_10 : decode cX6_copies 10 = .ok (.getfield 7, 3) := by decide +kernel
theorem dX6_copies_13 : decode cX6_copies 13 = .ok (.sipush 154, 3) := by decide +kernel
theorem dX6_copies_16 : decode cX6_copies 16 = .ok (.iload_n 2, 1) := by decide +kernel
theorem dX6_copies_17 : decode cX6_copies 17 = .ok (.imul, 1) := by decide +kernel
theorem dX6_copies_18 : decode cX6_copies 18 = .ok (.iload_n 3, 1) := by decide +kernel
theorem dX6_copies_19 : decode cX6_copies 19 = .ok (.iadd, 1) := by decide +kernel
theorem dX6_copies_20 : decode cX6_copies 20 = .ok (.aload_n 0, 1) := by decide +kernel
theorem dX6_copies_21 : decode cX6_copies 21 = .ok (.getfield 7, 3) := by decide +kernel
theorem dX6_copies_24 : decode cX6_copies 24 = .ok (.sipush 154, 3) := by decide +kernel
theorem dX6_copies_27 : decode cX6_copies 27 = .ok (.iload_n 1, 1) := by decide +kernel
theorem dX6_copies_28 : decode cX6_copies 28 = .ok (.imul, 1) := by decide +kernel
theorem dX6_copies_29 : decode cX6_copies 29 = .ok (.iload_n 3, 1) := by decide +kernel
theorem dX6_copies_30 : decode cX6_copies 30 = .ok (.iadd, 1) := by decide +kernel
theorem dX6_copies_31 : decode cX6_copies 31 = .ok (.iaload, 1) := by decide +kernel
theorem dX6_copies_32 : decode cX6_copies 32 = .ok (.iastore, 1) := by decide +kernel
theorem dX6_copies_33 : decode cX6_copies 33 = .ok (.iinc 3 1, 3) := by decide +kernel
theorem dX6_copies_36 : decode cX6_copies 36 = .ok (.goto (-34), 3) := by decide +kernel
theorem dX6_copies_39 : decode cX6_copies 39 = .ok (.return_, 1) := by decide +kernel
set_option maxRecDepth 20000 in
theorem ggX6_accepts_X6_copies : GoodIn wsX6_accepts wsX6_copies := goodIn_r _ [6, 7, 8, 9, 10, 11, 12, 13, 14, 15, 16, 17, 18, 19] (by decide +kernel) (by decide +kernel)
set_option maxRecDepth 20000 in
theorem gX6_accepts_X6_copies : GoodIn wsX6_accepts (wsV RX6 105 RX6 yX6_copies wsX6_copies) := goodIn_app (goodIn_of _ (by decide +kernel)) ggX6_accepts_X6_copies
theorem dX6_accepts_0 : decode cX6_accepts 0 = .ok (.iload_n 1, 1) := by decide +kernel
theorem dX6_accepts_1 : decode cX6_accepts 1 = .ok (.ifCond .ge 5, 3) := by decide +kernel
theorem dX6_accepts_4 : decode cX6_accepts 4 = .ok (.iload_n 1, 1) := by decide +kernel
theorem dX6_accepts_5 : decode cX6_accepts 5 = .ok (.ireturn, 1) := by decide +kernel
theorem dX6_accepts_6 : decode cX6_accepts 6 = .ok (.iconst 1, 1) := by decide +kernel
theorem dX6_accepts_7 : decode cX6_accepts 7 = .ok (.istore_n 2, 1) := by decide +kernel
theorem dX6_accepts_8 : decode cX6_accepts 8 = .ok (.iload_n 2, 1) := by decide +kernel
theorem dX6_accepts_9 : decode cX6_accepts 9 = .ok (.iconst 4, 1) := by decide +kernel
theorem dX6_accepts_10 : decode cX6_accepts 10 = .ok (.if_icmp .ge 25, 3) := by decide +kernel
theorem dX6_accepts_13 : decode cX6_accepts 13 = .ok (.aload_n 0, 1) := by decide +kernel
theorem dX6_accepts_14 : decode cX6_accepts 14 = .ok (.getfield 102, 3) := by decide +kernel
theorem dX6_accepts_17 : decode cX6_accepts 17 = .ok (.iconst 4, 1) := by decide +kernel
theorem dX6_accepts_18 : decode cX6_accepts 18 = .ok (.if_icmp .ne 17, 3) := by decide +kernel
theorem dX6_accepts_21 : decode cX6_accepts 21 = .ok (.aload_n 0, 1) := by decide +kernel
theorem dX6_accepts_22 : decode cX6_accepts 22 = .ok (.iload_n 2, 1) := by decide +kernel
theorem dX6_accepts_23 : decode cX6_accepts 23 = .ok (.iconst 1, 1) := by decide +kernel
theorem dX6_accepts_24 : decode cX6_accepts 24 = .ok (.iadd, 1) := by decide +kernel
theorem dX6_accepts_25 : decode cX6_accepts 25 = .ok (.iload_n 2, 1) := by decide +kernel
theorem dX6_accepts_26 : decode cX6_accepts 26 = .ok (.invokevirtual 105, 3) := by decide +kernel
theorem dX6_accepts_29 : decode cX6_accepts 29 = .ok (.iinc 2 1, 3) := by decide +kernel
theorem dX6_accepts_32 : decode cX6_accepts 32 = .ok (.goto (-24), 3) := by decide +kernel
theorem dX6_accepts_35 : decode cX6_accepts 35 = .ok (.aload_n 0, 1) := by decide +kernel
theorem dX6_accepts_36 : decode cX6_accepts 36 = .ok (.dup, 1) := by decide +kernel
theorem dX6_accepts_37 : decode cX6_accepts 37 = .ok (.getfield 102, 3) := by decide +kernel
theorem dX6_accepts_40 : decode cX6_accepts 40 = .ok (.aload_n 0, 1) := by decide +kernel
theorem dX6_accepts_41 : decode cX6_accepts 41 = .ok (.getfield 102, 3) := by decide +kernel
theorem dX6_accepts_44 : decode cX6_accepts 44 = .ok (.iconst 4, 1) := by decide +kernel
theorem dX6_accepts_45 : decode cX6_accepts 45 = .ok (.if_icmp .ge 7, 3) := by decide +kernel
theorem dX6_accepts_48 : decode cX6_accepts 48 = .ok (.iconst 1, 1) := by decide +kernel
theorem dX6_accepts_49 : decode cX6_accepts 49 = .ok (.goto 4, 3) := by decide +kernel
theorem dX6_accepts_52 : decode cX6_accepts 52 = .ok (.iconst 0, 1) := by decide +kernel
theorem dX6_accepts_53 : decode cX6_accepts 53 = .ok (.iadd, 1) := by decide +kernel
theorem dX6_accepts_54 : decode cX6_accepts 54 = .ok (.putfield 102, 3) := by decide +kernel
theorem dX6_accepts_57 : decode cX6_accepts 57 = .ok (.aload_n 0, 1) := by decide +kernel
theorem dX6_accepts_58 : decode cX6_accepts 58 = .ok (.iconst 0, 1) := by decide +kernel
theorem dX6_accepts_59 : decode cX6_accepts 59 = .ok (.aload_n 0, 1) := by decide +kernel
theorem dX6_accepts_60 : decode cX6_accepts 60 = .ok (.getfield 102, 3) := by decide +kernel
theorem dX6_accepts_63 : decode cX6_accepts 63 = .ok (.invokevirtual 105, 3) := by decide +kernel
theorem dX6_accepts_66 : decode cX6_accepts 66 = .ok (.aload_n 0, 1) := by decide +kernel
theorem dX6_accepts_67 : decode cX6_accepts 67 = .ok (.bipush 6, 2) := by decide +kernel
theorem dX6_accepts_69 : decode cX6_accepts 69 = .ok (.iconst 0, 1) := by decide +kernel
theorem dX6_accepts_70 : decode cX6_accepts 70 = .ok (.invokevirtual 105, 3) := by decide +kernel
theorem dX6_accepts_73 : decode cX6_accepts 73 = .ok (.iload_n 1, 1) := by decide +kernel
theorem dX6_accepts_74 : decode cX6_accepts 74 = .ok (.ireturn, 1) := by decide +kernel
set_option maxRecDepth 20000 in
theorem ggX6_setUp_X6_in : GoodIn wsX6_setUp wsX6_in := goodIn_r _ [5] (by decide +kernel) (by decide +kernel)
set_option maxRecDepth 20000 in
theorem gX6_setUp_X6_in : GoodIn wsX6_setUp (va_wsS RX6 34 yX6_in wsX6_in) := goodIn_app (goodIn_of _ (by decide +kernel)) ggX6_setUp_X6_in
set_option maxRecDepth 20000 in
theorem ggX6_setUp_X6_copies : GoodIn wsX6_setUp wsX6_copies := goodIn_r _ [9, 1, 35, 36, 37, 38, 39, 40, 41, 42, 43, 44, 45, 46] (by decide +kernel) (by decide +kernel)
set_option maxRecDepth 20000 in
theorem gX6_setUp_X6_copies : GoodIn wsX6_setUp (wsV RX6 105 RX6 yX6_copies wsX6_copies) := goodIn_app (goodIn_of _ (by decide +kernel)) ggX6_setUp_X6_copies
set_option maxRecDepth 20000 in
theorem ggX6_setUp_X6_calls : GoodIn wsX6_setUp wsX6_calls := goodIn_r _ [13, 14, 15, 16, 4, 17, 1, 18, 19, 20, 21, 35, 36, 37, 38, 39, 40, 41, 42, 43, 44, 45, 46] (by decide +kernel) (by decide +kernel)
set_option maxRecDepth 20000 in
theorem gX6_setUp_X6_calls : GoodIn wsX6_setUp (wsV RX6 96 RX6 yX6_calls wsX6_calls) := goodIn_app (goodIn_of _ (by decide +kernel)) ggX6_setUp_X6_calls
set_option maxRecDepth 20000 in
theorem ggX6_setUp_X6_builds : GoodIn wsX6_setUp wsX6_builds := goodIn_r _ [25, 1, 26, 27, 28, 4, 29, 35, 36, 37, 38, 39, 40, 41, 42, 43, 44, 45, 46] (by decide +kernel) (by decide +kernel)
set_option maxRecDepth 20000 in
theorem gX6_setUp_X6_builds : GoodIn wsX6_setUp (wsV RX6 22 RX6 yX6_builds wsX6_builds) := goodIn_app (goodIn_of _ (by decide +kernel)) ggX6_setUp_X6_builds
set_option maxRecDepth 20000 in
theorem ggX6_setUp_X6_accepts : GoodIn wsX6_setUp wsX6_accepts := goodIn_r _ [33, 34, 6, 7, 8, 4, 9, 1, 35, 36, 37, 38, 39, 40, 41, 42, 43, 44, 45, 46] (by decide +kernel) (by decide +kernel)
set_option maxRecDepth 20000 in
theorem gX6_setUp_X6_accepts : GoodIn wsX6_setUp (wsV RX6 109 RX6 yX6_accepts wsX6_accepts) := goodIn_app (goodIn_of _ (by decide +kernel)) ggX6_setUp_X6_accepts
theorem dX6_setUp_0 : decode cX6_setUp 0 = .ok (.iload_n 1, 1) := by decide +kernel
theorem dX6_setUp_1 : decode cX6_setUp 1 = .ok (.iconst 2, 1) := by decide +kernel
theorem dX6_setUp_2 : decode cX6_setUp 2 = .ok (.bipush 8, 2) := by decide +kernel
theorem dX6_setUp_4 : decode cX6_setUp 4 = .ok (.invokestatic 34, 3) := by decide +kernel
theorem dX6_setUp_7 : decode cX6_setUp 7 = .ok (.ifCond .eq 23, 3) := by decide +kernel
theorem dX6_setUp_10 : decode cX6_setUp 10 = .ok (.iload_n 2, 1) := by decide +kernel
theorem dX6_setUp_11 : decode cX6_setUp 11 = .ok (.iconst 1, 1) := by decide +kernel
theorem dX6_setUp_12 : decode cX6_setUp 12 = .ok (.bipush 6, 2) := by decide +kernel
theorem dX6_setUp_14 : decode cX6_setUp 14 = .ok (.invokestatic 34, 3) := by decide +kernel
theorem dX6_setUp_17 : decode cX6_setUp 17 = .ok (.ifCond .eq 13, 3) := by decide +kernel
theorem dX6_setUp_20 : decode cX6_setUp 20 = .ok (.iload_n 3, 1) := by decide +kernel
theorem dX6_setUp_21 : decode cX6_setUp 21 = .ok (.iconst 1, 1) := by decide +kernel
theorem dX6_setUp_22 : decode cX6_setUp 22 = .ok (.bipush 8, 2) := by decide +kernel
theorem dX6_setUp_24 : decode cX6_setUp 24 = .ok (.invokestatic 34, 3) := by decide +kernel
theorem dX6_setUp_27 : decode cX6_setUp 27 = .ok (.ifCond .ne 6, 3) := by decide +kernel
theorem dX6_setUp_30 : decode cX6_setUp 30 = .ok (.bipush (-2), 2) := by decide +kernel
theorem dX6_setUp_32 : decode cX6_setUp 32 = .ok (.ireturn, 1) := by decide +kernel
theorem dX6_setUp_33 : decode cX6_setUp 33 = .ok (.aload_n 0, 1) := by decide +kernel
theorem dX6_setUp_34 : decode cX6_setUp 34 = .ok (.iconst 0, 1) := by decide +kernel
theorem dX6_setUp_35 : decode cX6_setUp 35 = .ok (.bipush 6, 2) := by decide +kernel
theorem dX6_setUp_37 : decode cX6_setUp 37 = .ok (.invokevirtual 105, 3) := by decide +kernel
theorem dX6_setUp_40 : decode cX6_setUp 40 = .ok (.aload_n 0, 1) := by decide +kernel
theorem dX6_setUp_41 : decode cX6_setUp 41 = .ok (.iconst 0, 1) := by decide +kernel
theorem dX6_setUp_42 : decode cX6_setUp 42 = .ok (.invokevirtual 96, 3) := by decide +kernel
theorem dX6_setUp_45 : decode cX6_setUp 45 = .ok (.istore 4, 2) := by decide +kernel
theorem dX6_setUp_47 : decode cX6_setUp 47 = .ok (.aload_n 0, 1) := by decide +kernel
theorem dX6_setUp_48 : decode cX6_setUp 48 = .ok (.getfield 7, 3) := by decide +kernel
theorem dX6_setUp_51 : decode cX6_setUp 51 = .ok (.sipush 930, 3) := by decide +kernel
theorem dX6_setUp_54 : decode cX6_setUp 54 = .ok (.dup2, 1) := by decide +kernel
theorem dX6_setUp_55 : decode cX6_setUp 55 = .ok (.iaload, 1) := by decide +kernel
theorem dX6_setUp_56 : decode cX6_setUp 56 = .ok (.iload 4, 2) := by decide +kernel
theorem dX6_setUp_58 : decode cX6_setUp 58 = .ok (.iadd, 1) := by decide +kernel
theorem dX6_setUp_59 : decode cX6_setUp 59 = .ok (.iastore, 1) := by decide +kernel
theorem dX6_setUp_60 : decode cX6_setUp 60 = .ok (.aload_n 0, 1) := by decide +kernel
theorem dX6_setUp_61 : decode cX6_setUp 61 = .ok (.sipush 924, 3) := by decide +kernel
theorem dX6_setUp_64 : decode cX6_setUp 64 = .ok (.iload_n 1, 1) := by decide +kernel
theorem dX6_setUp_65 : decode cX6_setUp 65 = .ok (.iload_n 2, 1) := by decide +kernel
theorem dX6_setUp_66 : decode cX6_setUp 66 = .ok (.iload_n 3, 1) := by decide +kernel
theorem dX6_setUp_67 : decode cX6_setUp 67 = .ok (.invokevirtual 22, 3) := by decide +kernel
theorem dX6_setUp_70 : decode cX6_setUp 70 = .ok (.aload_n 0, 1) := by decide +kernel
theorem dX6_setUp_71 : decode cX6_setUp 71 = .ok (.iload 4, 2) := by decide +kernel
theorem dX6_setUp_73 : decode cX6_setUp 73 = .ok (.invokevirtual 109, 3) := by decide +kernel
theorem dX6_setUp_76 : decode cX6_setUp 76 = .ok (.ireturn, 1) := by decide +kernel
set_option maxRecDepth 20000 in
theorem ggX6_rules_X6_in : GoodIn wsX6_rules wsX6_in := goodIn_r _ [5] (by decide +kernel) (by decide +kernel)
set_option maxRecDepth 20000 in
theorem gX6_rules_X6_in : GoodIn wsX6_rules (va_wsS RX6 34 yX6_in wsX6_in) := goodIn_app (goodIn_of _ (by decide +kernel)) ggX6_rules_X6_in
set_option maxRecDepth 20000 in
theorem ggX6_rules_X6_copies : GoodIn wsX6_rules wsX6_copies := goodIn_r _ [9, 1, 15, 16, 17, 18, 19, 20, 21, 22, 23, 24, 25, 26] (by decide +kernel) (by decide +kernel)
set_option maxRecDepth 20000 in
theorem gX6_rules_X6_copies : GoodIn wsX6_rules (wsV RX6 105 RX6 yX6_copies wsX6_copies) := goodIn_app (goodIn_of _ (by decide +kernel)) ggX6_rules_X6_copies
set_option maxRecDepth 20000 in
theorem ggX6_rules_X6_accepts : GoodIn wsX6_rules wsX6_accepts := goodIn_r _ [13, 14, 6, 7, 8, 4, 9, 1, 15, 16, 17, 18, 19, 20, 21, 22, 23, 24, 25, 26] (by decide +kernel) (by decide +kernel)
set_option maxRecDepth 20000 in
theorem gX6_rules_X6_accepts : GoodIn wsX6_rules (wsV RX6 109 RX6 yX6_accepts wsX6_accepts) := goodIn_app (goodIn_of _ (by decide +kernel)) ggX6_rules_X6_accepts
theorem dX6_rules_0 : decode cX6_rules 0 = .ok (.iload_n 2, 1) := by decide +kernel
theorem dX6_rules_1 : decode cX6_rules 1 = .ok (.iconst 0, 1) := by decide +kernel
theorem dX6_rules_2 : decode cX6_rules 2 = .ok (.iload_n 3, 1) := by decide +kernel
theorem dX6_rules_3 : decode cX6_rules 3 = .ok (.invokestatic 34, 3) := by decide +kernel
theorem dX6_rules_6 : decode cX6_rules 6 = .ok (.ifCond .ne 6, 3) := by decide +kernel
theorem dX6_rules_9 : decode cX6_rules 9 = .ok (.bipush (-2), 2) := by decide +kernel
theorem dX6_rules_11 : decode cX6_rules 11 = .ok (.ireturn, 1) := by decide +kernel
theorem dX6_rules_12 : decode cX6_rules 12 = .ok (.aload_n 0, 1) := by decide +kernel
theorem dX6_rules_13 : decode cX6_rules 13 = .ok (.getfield 7, 3) := by decide +kernel
theorem dX6_rules_16 : decode cX6_rules 16 = .ok (.iload_n 1, 1) := by decide +kernel
theorem dX6_rules_17 : decode cX6_rules 17 = .ok (.iaload, 1) := by decide +kernel
theorem dX6_rules_18 : decode cX6_rules 18 = .ok (.istore 4, 2) := by decide +kernel
theorem dX6_rules_20 : decode cX6_rules 20 = .ok (.iload 4, 2) := by decide +kernel
theorem dX6_rules_22 : decode cX6_rules 22 = .ok (.iload_n 2, 1) := by decide +kernel
theorem dX6_rules_23 : decode cX6_rules 23 = .ok (.if_icmp .ne 6, 3) := by decide +kernel
theorem dX6_rules_26 : decode cX6_rules 26 = .ok (.bipush (-6), 2) := by decide +kernel
theorem dX6_rules_28 : decode cX6_rules 28 = .ok (.ireturn, 1) := by decide +kernel
theorem dX6_rules_29 : decode cX6_rules 29 = .ok (.aload_n 0, 1) := by decide +kernel
theorem dX6_rules_30 : decode cX6_rules 30 = .ok (.iconst 0, 1) := by decide +kernel
theorem dX6_rules_31 : decode cX6_rules 31 = .ok (.bipush 6, 2) := by decide +kernel
theorem dX6_rules_33 : decode cX6_rules 33 = .ok (.invokevirtual 105, 3) := by decide +kernel
theorem dX6_rules_36 : decode cX6_rules 36 = .ok (.aload_n 0, 1) := by decide +kernel
theorem dX6_rules_37 : decode cX6_rules 37 = .ok (.getfield 7, 3) := by decide +kernel
theorem dX6_rules_40 : decode cX6_rules 40 = .ok (.sipush 924, 3) := by decide +kernel
theorem dX6_rules_43 : decode cX6_rules 43 = .ok (.iload_n 1, 1) := by decide +kernel
theorem dX6_rules_44 : decode cX6_rules 44 = .ok (.iadd, 1) := by decide +kernel
theorem dX6_rules_45 : decode cX6_rules 45 = .ok (.iload_n 2, 1) := by decide +kernel
theorem dX6_rules_46 : decode cX6_rules 46 = .ok (.iastore, 1) := by decide +kernel
theorem dX6_rules_47 : decode cX6_rules 47 = .ok (.aload_n 0, 1) := by decide +kernel
theorem dX6_rules_48 : decode cX6_rules 48 = .ok (.iload 4, 2) := by decide +kernel
theorem dX6_rules_50 : decode cX6_rules 50 = .ok (.invokevirtual 109, 3) := by decide +kernel
theorem dX6_rules_53 : decode cX6_rules 53 = .ok (.ireturn, 1) := by decide +kernel
set_option maxRecDepth 20000 in
theorem ggX6_setChoiceRule_X6_rules : GoodIn wsX6_setChoiceRule wsX6_rules := goodIn_r _ [5, 6, 7, 8, 4, 9, 10, 11, 12, 13, 14, 15, 16, 17, 18, 19, 20, 21, 22, 23, 24, 25, 26, 27, 28, 29, 30] (by decide +kernel) (by decide +kernel)
set_option maxRecDepth 20000 in
theorem gX6_setChoiceRule_X6_rules : GoodIn wsX6_setChoiceRule (wsV RX6 112 RX6 yX6_rules wsX6_rules) := goodIn_app (goodIn_of _ (by decide +kernel)) ggX6_setChoiceRule_X6_rules
theorem dX6_setChoiceRule_0 : decode cX6_setChoiceRule 0 = .ok (.aload_n 0, 1) := by decide +kernel
theorem dX6_setChoiceRule_1 : decode cX6_setChoiceRule 1 = .ok (.iconst 3, 1) := by decide +kernel
theorem dX6_setChoiceRule_2 : decode cX6_setChoiceRule 2 = .ok (.iload_n 1, 1) := by decide +kernel
theorem dX6_setChoiceRule_3 : decode cX6_setChoiceRule 3 = .ok (.iconst 2, 1) := by decide +kernel
theorem dX6_setChoiceRule_4 : decode cX6_setChoiceRule 4 = .ok (.invokevirtual 112, 3) := by decide +kernel
theorem dX6_setChoiceRule_7 : decode cX6_setChoiceRule 7 = .ok (.ireturn, 1) := by decide +kernel
set_option maxRecDepth 20000 in
theorem ggX6_setPairRule_X6_rules : GoodIn wsX6_setPairRule wsX6_rules := goodIn_r _ [5, 6, 7, 8, 4, 9, 10, 11, 12, 13, 14, 15, 16, 17, 18, 19, 20, 21, 22, 23, 24, 25, 26, 27, 28, 29, 30] (by decide +kernel) (by decide +kernel)
set_option maxRecDepth 20000 in
theorem gX6_setPairRule_X6_rules : GoodIn wsX6_setPairRule (wsV RX6 112 RX6 yX6_rules wsX6_rules) := goodIn_app (goodIn_of _ (by decide +kernel)) ggX6_setPairRule_X6_rules
theorem dX6_setPairRule_0 : decode cX6_setPairRule 0 = .ok (.aload_n 0, 1) := by decide +kernel
theorem dX6_setPairRule_1 : decode cX6_setPairRule 1 = .ok (.iconst 4, 1) := by decide +kernel
theorem dX6_setPairRule_2 : decode cX6_setPairRule 2 = .ok (.iload_n 1, 1) := by decide +kernel
theorem dX6_setPairRule_3 : decode cX6_setPairRule 3 = .ok (.iconst 1, 1) := by decide +kernel
theorem dX6_setPairRule_4 : decode cX6_setPairRule 4 = .ok (.invokevirtual 112, 3) := by decide +kernel
theorem dX6_setPairRule_7 : decode cX6_setPairRule 7 = .ok (.ireturn, 1) := by decide +kernel
set_option maxRecDepth 20000 in
theorem ggX6_connect_X6_copies : GoodIn wsX6_connect wsX6_copies := goodIn_r _ [5, 6, 83, 84, 85, 86, 87, 88, 89, 90, 91, 92, 93, 94] (by decide +kernel) (by decide +kernel)
set_option maxRecDepth 20000 in
theorem gX6_connect_X6_copies : GoodIn wsX6_connect (wsV RX6 105 RX6 yX6_copies wsX6_copies) := goodIn_app (goodIn_of _ (by decide +kernel)) ggX6_connect_X6_copies
set_option maxRecDepth 20000 in
theorem ggX6_connect_X6_connects : GoodIn wsX6_connect wsX6_connects := goodIn_r _ [10, 6, 11, 12, 13, 4, 14, 15, 16, 17, 18, 19, 20, 21, 22, 23, 24, 25, 26, 27, 28, 29, 30, 31, 32, 33, 34, 35, 36, 37, 38, 39, 40, 41, 42, 43, 44, 45, 46, 47, 48, 49, 50, 51, 52, 53, 54, 55, 56, 57, 58, 59, 60, 61, 62, 63, 64, 65, 66, 67, 68, 69, 70, 71, 72, 73, 74, 75, 76, 77, 83, 84, 85, 86, 87, 88, 89, 90, 91, 92, 93, 94] (by decide +kernel) (by decide +kernel)
set_option maxRecDepth 20000 in
theorem gX6_connect_X6_connects : GoodIn wsX6_connect (wsV RX6 115 RX6 yX6_connects wsX6_connects) := goodIn_app (goodIn_of _ (by decide +kernel)) ggX6_connect_X6_connects
set_option maxRecDepth 20000 in
theorem ggX6_connect_X6_accepts : GoodIn wsX6_connect wsX6_accepts := goodIn_r _ [81, 82, 1, 2, 3, 4, 5, 6, 83, 84, 85, 86, 87, 88, 89, 90, 91, 92, 93, 94] (by decide +kernel) (by decide +kernel)
set_option maxRecDepth 20000 in
theorem gX6_connect_X6_accepts : GoodIn wsX6_connect (wsV RX6 109 RX6 yX6_accepts wsX6_accepts) := goodIn_app (goodIn_of _ (by decide +kernel)) ggX6_connect_X6_accepts
theorem dX6_connect_0 : decode cX6_connect 0 = .ok (.aload_n 0, 1) := by decide +kernel
theorem dX6_connect_1 : decode cX6_connect 1 = .ok (.iconst 0, 1) := by decide +kernel
theorem dX6_connect_2 : decode cX6_connect 2 = .ok (.bipush 6, 2) := by decide +kernel
theorem dX6_connect_4 : decode cX6_connect 4 = .ok (.invokevirtual 105, 3) := by decide +kernel
theorem dX6_connect_7 : decode cX6_connect 7 = .ok (.aload_n 0, 1) := by decide +kernel
theorem dX6_connect_8 : decode cX6_connect 8 = .ok (.aload_n 0, 1) := by decide +kernel
theorem dX6_connect_9 : decode cX6_connect 9 = .ok (.sipush 924, 3) := by decide +kernel
theorem dX6_connect_12 : decode cX6_connect 12 = .ok (.iload_n 1, 1) := by decide +kernel
theorem dX6_connect_13 : decode cX6_connect 13 = .ok (.iload_n 2, 1) := by decide +kernel
theorem dX6_connect_14 : decode cX6_connect 14 = .ok (.invokevirtual 115, 3) := by decide +kernel
theorem dX6_connect_17 : decode cX6_connect 17 = .ok (.invokevirtual 109, 3) := by decide +kernel
theorem dX6_connect_20 : decode cX6_connect 20 = .ok (.ireturn, 1) := by decide +kernel
set_option maxRecDepth 20000 in
theorem ggX6_disconnect_X6_copies : GoodIn wsX6_disconnect wsX6_copies := goodIn_r _ [5, 6, 35, 36, 37, 38, 39, 40, 41, 42, 43, 44, 45, 46] (by decide +kernel) (by decide +kernel)
set_option maxRecDepth 20000 in
theorem gX6_disconnect_X6_copies : GoodIn wsX6_disconnect (wsV RX6 105 RX6 yX6_copies wsX6_copies) := goodIn_app (goodIn_of _ (by decide +kernel)) ggX6_disconnect_X6_copies
set_option maxRecDepth 20000 in
theorem ggX6_disconnect_X6_disconnects : GoodIn wsX6_disconnect wsX6_disconnects := goodIn_r _ [10, 6, 11, 12, 13, 4, 14, 15, 16, 17, 18, 19, 20, 21, 22, 23, 24, 25, 26, 27, 28, 29, 35, 36, 37, 38, 39, 40, 41, 42, 43, 44, 45, 46] (by decide +kernel) (by decide +kernel)
set_option maxRecDepth 20000 in
theorem gX6_disconnect_X6_disconnects : GoodIn wsX6_disconnect (wsV RX6 118 RX6 yX6_disconnects wsX6_disconnects) := goodIn_app (goodIn_of _ (by decide +kernel)) ggX6_disconnect_X6_disconnects
set_option maxRecDepth 20000 in
theorem ggX6_disconnect_X6_accepts : GoodIn wsX6_disconnect wsX6_accepts := goodIn_r _ [33, 34, 1, 2, 3, 4, 5, 6, 35, 36, 37, 38, 39, 40, 41, 42, 43, 44, 45, 46] (by decide +kernel) (by decide +kernel)
set_option maxRecDepth 20000 in
theorem gX6_disconnect_X6_accepts : GoodIn wsX6_disconnect (wsV RX6 109 RX6 yX6_accepts wsX6_accepts) := goodIn_app (goodIn_of _ (by decide +kernel)) ggX6_disconnect_X6_accepts
theorem dX6_disconnect_0 : decode cX6_disconnect 0 = .ok (.aload_n 0, 1) := by decide +kernel
theorem dX6_disconnect_1 : decode cX6_disconnect 1 = .ok (.iconst 0, 1) := by decide +kernel
theorem dX6_disconnect_2 : decode cX6_disconnect 2 = .ok (.bipush 6, 2) := by decide +kernel
theorem dX6_disconnect_4 : decode cX6_disconnect 4 = .ok (.invokevirtual 105, 3) := by decide +kernel
theorem dX6_disconnect_7 : decode cX6_disconnect 7 = .ok (.aload_n 0, 1) := by decide +kernel
theorem dX6_disconnect_8 : decode cX6_disconnect 8 = .ok (.aload_n 0, 1) := by decide +kernel
theorem dX6_disconnect_9 : decode cX6_disconnect 9 = .ok (.sipush 924, 3) := by decide +kernel
theorem dX6_disconnect_12 : decode cX6_disconnect 12 = .ok (.iload_n 1, 1) := by decide +kernel
theorem dX6_disconnect_13 : decode cX6_disconnect 13 = .ok (.invokevirtual 118, 3) := by decide +kernel
theorem dX6_disconnect_16 : decode cX6_disconnect 16 = .ok (.invokevirtual 109, 3) := by decide +kernel
theorem dX6_disconnect_19 : decode cX6_disconnect 19 = .ok (.ireturn, 1) := by decide +kernel
set_option maxRecDepth 20000 in
theorem ggX6_takeOut_X6_copies : GoodIn wsX6_takeOut wsX6_copies := goodIn_r _ [5, 6, 83, 84, 85, 86, 87, 88, 89, 90, 91, 92, 93, 94] (by decide +kernel) (by decide +kernel)
set_option maxRecDepth 20000 in
theorem gX6_takeOut_X6_copies : GoodIn wsX6_takeOut (wsV RX6 105 RX6 yX6_copies wsX6_copies) := goodIn_app (goodIn_of _ (by decide +kernel)) ggX6_takeOut_X6_copies
set_option maxRecDepth 20000 in
theorem ggX6_takeOut_X6_takesOut : GoodIn wsX6_takeOut wsX6_takesOut := goodIn_r _ [10, 6, 11, 12, 13, 4, 14, 15, 16, 17, 18, 19, 20, 21, 22, 23, 24, 25, 26, 27, 28, 29, 30, 31, 32, 33, 34, 35, 36, 37, 38, 39, 40, 41, 42, 43, 44, 45, 46, 47, 48, 49, 50, 51, 52, 53, 54, 55, 56, 57, 58, 59, 60, 61, 62, 63, 64, 65, 66, 67, 68, 69, 70, 71, 72, 73, 74, 75, 76, 77, 83, 84, 85, 86, 87, 88, 89, 90, 91, 92, 93, 94] (by decide +kernel) (by decide +kernel)
set_option maxRecDepth 20000 in
theorem gX6_takeOut_X6_takesOut : GoodIn wsX6_takeOut (wsV RX6 121 RX6 yX6_takesOut wsX6_takesOut) := goodIn_app (goodIn_of _ (by decide +kernel)) ggX6_takeOut_X6_takesOut
set_option maxRecDepth 20000 in
theorem ggX6_takeOut_X6_accepts : GoodIn wsX6_takeOut wsX6_accepts := goodIn_r _ [81, 82, 1, 2, 3, 4, 5, 6, 83, 84, 85, 86, 87, 88, 89, 90, 91, 92, 93, 94] (by decide +kernel) (by decide +kernel)
set_option maxRecDepth 20000 in
theorem gX6_takeOut_X6_accepts : GoodIn wsX6_takeOut (wsV RX6 109 RX6 yX6_accepts wsX6_accepts) := goodIn_app (goodIn_of _ (by decide +kernel)) ggX6_takeOut_X6_accepts
theorem dX6_takeOut_0 : decode cX6_takeOut 0 = .ok (.aload_n 0, 1) := by decide +kernel
theorem dX6_takeOut_1 : decode cX6_takeOut 1 = .ok (.iconst 0, 1) := by decide +kernel
theorem dX6_takeOut_2 : decode cX6_takeOut 2 = .ok (.bipush 6, 2) := by decide +kernel
theorem dX6_takeOut_4 : decode cX6_takeOut 4 = .ok (.invokevirtual 105, 3) := by decide +kernel
theorem dX6_takeOut_7 : decode cX6_takeOut 7 = .ok (.aload_n 0, 1) := by decide +kernel
theorem dX6_takeOut_8 : decode cX6_takeOut 8 = .ok (.aload_n 0, 1) := by decide +kernel
theorem dX6_takeOut_9 : decode cX6_takeOut 9 = .ok (.sipush 924, 3) := by decide +kernel
theorem dX6_takeOut_12 : decode cX6_takeOut 12 = .ok (.iload_n 1, 1) := by decide +kernel
theorem dX6_takeOut_13 : decode cX6_takeOut 13 = .ok (.invokevirtual 121, 3) := by decide +kernel
theorem dX6_takeOut_16 : decode cX6_takeOut 16 = .ok (.invokevirtual 109, 3) := by decide +kernel
theorem dX6_takeOut_19 : decode cX6_takeOut 19 = .ok (.ireturn, 1) := by decide +kernel
set_option maxRecDepth 20000 in
theorem ggX6_putBack_X6_copies : GoodIn wsX6_putBack wsX6_copies := goodIn_r _ [5, 6, 29, 30, 31, 32, 33, 34, 35, 36, 37, 38, 39, 40] (by decide +kernel) (by decide +kernel)
set_option maxRecDepth 20000 in
theorem gX6_putBack_X6_copies : GoodIn wsX6_putBack (wsV RX6 105 RX6 yX6_copies wsX6_copies) := goodIn_app (goodIn_of _ (by decide +kernel)) ggX6_putBack_X6_copies
set_option maxRecDepth 20000 in
theorem ggX6_putBack_X6_putsBack : GoodIn wsX6_putBack wsX6_putsBack := goodIn_r _ [10, 6, 11, 12, 13, 4, 14, 15, 16, 17, 18, 19, 20, 21, 22, 23, 29, 30, 31, 32, 33, 34, 35, 36, 37, 38, 39, 40] (by decide +kernel) (by decide +kernel)
set_option maxRecDepth 20000 in
theorem gX6_putBack_X6_putsBack : GoodIn wsX6_putBack (wsV RX6 124 RX6 yX6_putsBack wsX6_putsBack) := goodIn_app (goodIn_of _ (by decide +kernel)) ggX6_putBack_X6_putsBack
set_option maxRecDepth 20000 in
theorem ggX6_putBack_X6_accepts : GoodIn wsX6_putBack wsX6_accepts := goodIn_r _ [27, 28, 1, 2, 3, 4, 5, 6, 29, 30, 31, 32, 33, 34, 35, 36, 37, 38, 39, 40] (by decide +kernel) (by decide +kernel)
set_option maxRecDepth 20000 in
theorem gX6_putBack_X6_accepts : GoodIn wsX6_putBack (wsV RX6 109 RX6 yX6_accepts wsX6_accepts) := goodIn_app (goodIn_of _ (by decide +kernel)) ggX6_putBack_X6_accepts
theorem dX6_putBack_0 : decode cX6_putBack 0 = .ok (.aload_n 0, 1) := by decide +kernel
theorem dX6_putBack_1 : decode cX6_putBack 1 = .ok (.iconst 0, 1) := by decide +kernel
theorem dX6_putBack_2 : decode cX6_putBack 2 = .ok (.bipush 6, 2) := by decide +kernel
theorem dX6_putBack_4 : decode cX6_putBack 4 = .ok (.invokevirtual 105, 3) := by decide +kernel
theorem dX6_putBack_7 : decode cX6_putBack 7 = .ok (.aload_n 0, 1) := by decide +kernel
theorem dX6_putBack_8 : decode cX6_putBack 8 = .ok (.aload_n 0, 1) := by decide +kernel
theorem dX6_putBack_9 : decode cX6_putBack 9 = .ok (.sipush 924, 3) := by decide +kernel
theorem dX6_putBack_12 : decode cX6_putBack 12 = .ok (.iload_n 1, 1) := by decide +kernel
theorem dX6_putBack_13 : decode cX6_putBack 13 = .ok (.invokevirtual 124, 3) := by decide +kernel
theorem dX6_putBack_16 : decode cX6_putBack 16 = .ok (.invokevirtual 109, 3) := by decide +kernel
theorem dX6_putBack_19 : decode cX6_putBack 19 = .ok (.ireturn, 1) := by decide +kernel
set_option maxRecDepth 20000 in
theorem ggX6_pack_X6_copies : GoodIn wsX6_pack wsX6_copies := goodIn_r _ [5, 6, 88, 89, 90, 91, 92, 93, 94, 95, 96, 97, 98, 99] (by decide +kernel) (by decide +kernel)
set_option maxRecDepth 20000 in
theorem gX6_pack_X6_copies : GoodIn wsX6_pack (wsV RX6 105 RX6 yX6_copies wsX6_copies) := goodIn_app (goodIn_of _ (by decide +kernel)) ggX6_pack_X6_copies
set_option maxRecDepth 20000 in
theorem ggX6_pack_X6_packs : GoodIn wsX6_pack wsX6_packs := goodIn_r _ [10, 6, 11, 12, 13, 14, 4, 15, 16, 17, 18, 19, 20, 21, 22, 23, 24, 25, 26, 27, 28, 29, 30, 31, 32, 33, 34, 35, 36, 37, 38, 39, 40, 41, 42, 43, 44, 45, 46, 47, 48, 49, 50, 51, 52, 53, 54, 55, 56, 57, 58, 59, 60, 61, 62, 63, 64, 65, 66, 67, 68, 69, 70, 71, 72, 73, 74, 75, 76, 77, 78, 79, 80, 81, 82, 88, 89, 90, 91, 92, 93, 94, 95, 96, 97, 98, 99] (by decide +kernel) (by decide +kernel)
set_option maxRecDepth 20000 in
theorem gX6_pack_X6_packs : GoodIn wsX6_pack (wsV RX6 127 RX6 yX6_packs wsX6_packs) := goodIn_app (goodIn_of _ (by decide +kernel)) ggX6_pack_X6_packs
set_option maxRecDepth 20000 in
theorem ggX6_pack_X6_accepts : GoodIn wsX6_pack wsX6_accepts := goodIn_r _ [86, 87, 1, 2, 3, 4, 5, 6, 88, 89, 90, 91, 92, 93, 94, 95, 96, 97, 98, 99] (by decide +kernel) (by decide +kernel)
set_option maxRecDepth 20000 in
theorem gX6_pack_X6_accepts : GoodIn wsX6_pack (wsV RX6 109 RX6 yX6_accepts wsX6_accepts) := goodIn_app (goodIn_of _ (by decide +kernel)) ggX6_pack_X6_accepts
theorem dX6_pack_0 : decode cX6_pack 0 = .ok (.aload_n 0, 1) := by decide +kernel
theorem dX6_pack_1 : decode cX6_pack 1 = .ok (.iconst 0, 1) := by decide +kernel
theorem dX6_pack_2 : decode cX6_pack 2 = .ok (.bipush 6, 2) := by decide +kernel
theorem dX6_pack_4 : decode cX6_pack 4 = .ok (.invokevirtual 105, 3) := by decide +kernel
theorem dX6_pack_7 : decode cX6_pack 7 = .ok (.aload_n 0, 1) := by decide +kernel
theorem dX6_pack_8 : decode cX6_pack 8 = .ok (.aload_n 0, 1) := by decide +kernel
theorem dX6_pack_9 : decode cX6_pack 9 = .ok (.sipush 924, 3) := by decide +kernel
theorem dX6_pack_12 : decode cX6_pack 12 = .ok (.invokevirtual 127, 3) := by decide +kernel
theorem dX6_pack_15 : decode cX6_pack 15 = .ok (.invokevirtual 109, 3) := by decide +kernel
theorem dX6_pack_18 : decode cX6_pack 18 = .ok (.ireturn, 1) := by decide +kernel
theorem dX6_type_0 : decode cX6_type 0 = .ok (.aload_n 0, 1) := by decide +kernel
theorem dX6_type_1 : decode cX6_type 1 = .ok (.getfield 130, 3) := by decide +kernel
theorem dX6_type_4 : decode cX6_type 4 = .ok (.bipush 60, 2) := by decide +kernel
theorem dX6_type_6 : decode cX6_type 6 = .ok (.if_icmp .ne 6, 3) := by decide +kernel
theorem dX6_type_9 : decode cX6_type 9 = .ok (.bipush (-5), 2) := by decide +kernel
theorem dX6_type_11 : decode cX6_type 11 = .ok (.ireturn, 1) := by decide +kernel
theorem dX6_type_12 : decode cX6_type 12 = .ok (.aload_n 0, 1) := by decide +kernel
theorem dX6_type_13 : decode cX6_type 13 = .ok (.getfield 13, 3) := by decide +kernel
theorem dX6_type_16 : decode cX6_type 16 = .ok (.aload_n 0, 1) := by decide +kernel
theorem dX6_type_17 : decode cX6_type 17 = .ok (.getfield 130, 3) := by decide +kernel
theorem dX6_type_20 : decode cX6_type 20 = .ok (.iload_n 1, 1) := by decide +kernel
theorem dX6_type_21 : decode cX6_type 21 = .ok (.iastore, 1) := by decide +kernel
theorem dX6_type_22 : decode cX6_type 22 = .ok (.aload_n 0, 1) := by decide +kernel
theorem dX6_type_23 : decode cX6_type 23 = .ok (.dup, 1) := by decide +kernel
theorem dX6_type_24 : decode cX6_type 24 = .ok (.getfield 130, 3) := by decide +kernel
theorem dX6_type_27 : decode cX6_type 27 = .ok (.iconst 1, 1) := by decide +kernel
theorem dX6_type_28 : decode cX6_type 28 = .ok (.iadd, 1) := by decide +kernel
theorem dX6_type_29 : decode cX6_type 29 = .ok (.putfield 130, 3) := by decide +kernel
theorem dX6_type_32 : decode cX6_type 32 = .ok (.aload_n 0, 1) := by decide +kernel
theorem dX6_type_33 : decode cX6_type 33 = .ok (.getfield 130, 3) := by decide +kernel
theorem dX6_type_36 : decode cX6_type 36 = .ok (.ireturn, 1) := by decide +kernel
theorem dX6_clearText_0 : decode cX6_clearText 0 = .ok (.aload_n 0, 1) := by decide +kernel
theorem dX6_clearText_1 : decode cX6_clearText 1 = .ok (.getfield 130, 3) := by decide +kernel
theorem dX6_clearText_4 : decode cX6_clearText 4 = .ok (.istore_n 1, 1) := by decide +kernel
theorem dX6_clearText_5 : decode cX6_clearText 5 = .ok (.aload_n 0, 1) := by decide +kernel
theorem dX6_clearText_6 : decode cX6_clearText 6 = .ok (.iconst 0, 1) := by decide +kernel
theorem dX6_clearText_7 : decode cX6_clearText 7 = .ok (.putfield 130, 3) := by decide +kernel
theorem dX6_clearText_10 : decode cX6_clearText 10 = .ok (.iload_n 1, 1) := by decide +kernel
theorem dX6_clearText_11 : decode cX6_clearText 11 = .ok (.ireturn, 1) := by decide +kernel
set_option maxRecDepth 20000 in
theorem ggX6_isHere_X6_in : GoodIn wsX6_isHere wsX6_in := goodIn_r _ [7] (by decide +kernel) (by decide +kernel)
set_option maxRecDepth 20000 in
theorem gX6_isHere_X6_in : GoodIn wsX6_isHere (va_wsS RX6 34 yX6_in wsX6_in) := goodIn_app (goodIn_of _ (by decide +kernel)) ggX6_isHere_X6_in
theorem dX6_isHere_0 : decode cX6_isHere 0 = .ok (.aload_n 0, 1) := by decide +kernel
theorem dX6_isHere_1 : decode cX6_isHere 1 = .ok (.getfield 133, 3) := by decide +kernel
theorem dX6_isHere_4 : decode cX6_isHere 4 = .ok (.aload_n 0, 1) := by decide +kernel
theorem dX6_isHere_5 : decode cX6_isHere 5 = .ok (.getfield 130, 3) := by decide +kernel
theorem dX6_isHere_8 : decode cX6_isHere 8 = .ok (.if_icmp .ge 24, 3) := by decide +kernel
theorem dX6_isHere_11 : decode cX6_isHere 11 = .ok (.aload_n 0, 1) := by decide +kernel
theorem dX6_isHere_12 : decode cX6_isHere 12 = .ok (.getfield 13, 3) := by decide +kernel
theorem dX6_isHere_15 : decode cX6_isHere 15 = .ok (.aload_n 0, 1) := by decide +kernel
theorem dX6_isHere_16 : decode cX6_isHere 16 = .ok (.getfield 133, 3) := by decide +kernel
theorem dX6_isHere_19 : decode cX6_isHere 19 = .ok (.iaload, 1) := by decide +kernel
theorem dX6_isHere_20 : decode cX6_isHere 20 = .ok (.iload_n 1, 1) := by decide +kernel
theorem dX6_isHere_21 : decode cX6_isHere 21 = .ok (.iload_n 2, 1) := by decide +kernel
theorem dX6_isHere_22 : decode cX6_isHere 22 = .ok (.invokestatic 34, 3) := by decide +kernel
theorem dX6_isHere_25 : decode cX6_isHere 25 = .ok (.ifCond .eq 7, 3) := by decide +kernel
theorem dX6_isHere_28 : decode cX6_isHere 28 = .ok (.iconst 1, 1) := by decide +kernel
theorem dX6_isHere_29 : decode cX6_isHere 29 = .ok (.goto 4, 3) := by decide +kernel
theorem dX6_isHere_32 : decode cX6_isHere 32 = .ok (.iconst 0, 1) := by decide +kernel
theorem dX6_isHere_33 : decode cX6_isHere 33 = .ok (.ireturn, 1) := by decide +kernel
set_option maxRecDepth 20000 in
theorem ggX6_takes_X6_isHere : GoodIn wsX6_takes wsX6_isHere := goodIn_r _ [6, 1, 7, 8, 9, 10, 5, 11, 12, 13, 14, 15, 16, 17, 18, 19, 20, 21, 22, 23] (by decide +kernel) (by decide +kernel)
set_option maxRecDepth 20000 in
theorem gX6_takes_X6_isHere : GoodIn wsX6_takes (wsV RX6 136 RX6 yX6_isHere wsX6_isHere) := goodIn_app (goodIn_of _ (by decide +kernel)) ggX6_takes_X6_isHere
theorem dX6_takes_0 : decode cX6_takes 0 = .ok (.aload_n 0, 1) := by decide +kernel
theorem dX6_takes_1 : decode cX6_takes 1 = .ok (.iload_n 1, 1) := by decide +kernel
theorem dX6_takes_2 : decode cX6_takes 2 = .ok (.iload_n 1, 1) := by decide +kernel
theorem dX6_takes_3 : decode cX6_takes 3 = .ok (.invokevirtual 136, 3) := by decide +kernel
theorem dX6_takes_6 : decode cX6_takes 6 = .ok (.istore_n 2, 1) := by decide +kernel
theorem dX6_takes_7 : decode cX6_takes 7 = .ok (.aload_n 0, 1) := by decide +kernel
theorem dX6_takes_8 : decode cX6_takes 8 = .ok (.dup, 1) := by decide +kernel
theorem dX6_takes_9 : decode cX6_takes 9 = .ok (.getfield 133, 3) := by decide +kernel
theorem dX6_takes_12 : decode cX6_takes 12 = .ok (.iload_n 2, 1) := by decide +kernel
theorem dX6_takes_13 : decode cX6_takes 13 = .ok (.ifCond .eq 7, 3) := by decide +kernel
theorem dX6_takes_16 : decode cX6_takes 16 = .ok (.iconst 1, 1) := by decide +kernel
theorem dX6_takes_17 : decode cX6_takes 17 = .ok (.goto 4, 3) := by decide +kernel
theorem dX6_takes_20 : decode cX6_takes 20 = .ok (.iconst 0, 1) := by decide +kernel
theorem dX6_takes_21 : decode cX6_takes 21 = .ok (.iadd, 1) := by decide +kernel
theorem dX6_takes_22 : decode cX6_takes 22 = .ok (.putfield 133, 3) := by decide +kernel
theorem dX6_takes_25 : decode cX6_takes 25 = .ok (.iload_n 2, 1) := by decide +kernel
theorem dX6_takes_26 : decode cX6_takes 26 = .ok (.ireturn, 1) := by decide +kernel
set_option maxRecDepth 20000 in
theorem ggX6_number_X6_isHere : GoodIn wsX6_number wsX6_isHere := goodIn_r _ [7, 2, 8, 1, 9, 10, 6, 11, 12, 13, 14, 15, 16, 17, 18, 19, 20, 21, 22, 23] (by decide +kernel) (by decide +kernel)
set_option maxRecDepth 20000 in
theorem gX6_number_X6_isHere : GoodIn wsX6_number (wsV RX6 136 RX6 yX6_isHere wsX6_isHere) := goodIn_app (goodIn_of _ (by decide +kernel)) ggX6_number_X6_isHere
theorem dX6_number_0 : decode cX6_number 0 = .ok (.aload_n 0, 1) := by decide +kernel
theorem dX6_number_1 : decode cX6_number 1 = .ok (.bipush 48, 2) := by decide +kernel
theorem dX6_number_3 : decode cX6_number 3 = .ok (.bipush 57, 2) := by decide +kernel
theorem dX6_number_5 : decode cX6_number 5 = .ok (.invokevirtual 136, 3) := by decide +kernel
theorem dX6_number_8 : decode cX6_number 8 = .ok (.ifCond .ne 5, 3) := by decide +kernel
theorem dX6_number_11 : decode cX6_number 11 = .ok (.iconst (-1), 1) := by decide +kernel
theorem dX6_number_12 : decode cX6_number 12 = .ok (.ireturn, 1) := by decide +kernel
theorem dX6_number_13 : decode cX6_number 13 = .ok (.aload_n 0, 1) := by decide +kernel
theorem dX6_number_14 : decode cX6_number 14 = .ok (.getfield 13, 3) := by decide +kernel
theorem dX6_number_17 : decode cX6_number 17 = .ok (.aload_n 0, 1) := by decide +kernel
theorem dX6_number_18 : decode cX6_number 18 = .ok (.getfield 133, 3) := by decide +kernel
theorem dX6_number_21 : decode cX6_number 21 = .ok (.iaload, 1) := by decide +kernel
theorem dX6_number_22 : decode cX6_number 22 = .ok (.bipush 48, 2) := by decide +kernel
theorem dX6_number_24 : decode cX6_number 24 = .ok (.isub, 1) := by decide +kernel
theorem dX6_number_25 : decode cX6_number 25 = .ok (.istore_n 1, 1) := by decide +kernel
theorem dX6_number_26 : decode cX6_number 26 = .ok (.aload_n 0, 1) := by decide +kernel
theorem dX6_number_27 : decode cX6_number 27 = .ok (.dup, 1) := by decide +kernel
theorem dX6_number_28 : decode cX6_number 28 = .ok (.getfield 133, 3) := by decide +kernel
theorem dX6_number_31 : decode cX6_number 31 = .ok (.iconst 1, 1) := by decide +kernel
theorem dX6_number_32 : decode cX6_number 32 = .ok (.iadd, 1) := by decide +kernel
theorem dX6_number_33 : decode cX6_number 33 = .ok (.putfield 133, 3) := by decide +kernel
theorem dX6_number_36 : decode cX6_number 36 = .ok (.iload_n 1, 1) := by decide +kernel
theorem dX6_number_37 : decode cX6_number 37 = .ok (.ifCond .le 64, 3) := by decide +kernel
theorem dX6_number_40 : decode cX6_number 40 = .ok (.aload_n 0, 1) := by decide +kernel
theorem dX6_number_41 : decode cX6_number 41 = .ok (.bipush 48, 2) := by decide +kernel
theorem dX6_number_43 : decode cX6_number 43 = .ok (.bipush 57, 2) := by decide +kernel
theorem dX6_number_45 : decode cX6_number 45 = .ok (.invokevirtual 136, 3) := by decide +kernel
theorem dX6_number_48 : decode cX6_number 48 = .ok (.ifCond .eq 53, 3) := by decide +kernel
theorem dX6_number_51 : decode cX6_number 51 = .ok (.bipush 10, 2) := by decide +kernel
theorem dX6_number_53 : decode cX6_number 53 = .ok (.iload_n 1, 1) := by decide +kernel
theorem dX6_number_54 : decode cX6_number 54 = .ok (.imul, 1) := by decide +kernel
theorem dX6_number_55 : decode cX6_number 55 = .ok (.aload_n 0, 1) := by decide +kernel
theorem dX6_number_56 : decode cX6_number 56 = .ok (.getfield 13, 3) := by decide +kernel
theorem dX6_number_59 : decode cX6_number 59 = .ok (.aload_n 0, 1) := by decide +kernel
theorem dX6_number_60 : decode cX6_number 60 = .ok (.getfield 133, 3) := by decide +kernel
theorem dX6_number_63 : decode cX6_number 63 = .ok (.iaload, 1) := by decide +kernel
theorem dX6_number_64 : decode cX6_number 64 = .ok (.iadd, 1) := by decide +kernel
theorem dX6_number_65 : decode cX6_number 65 = .ok (.bipush 48, 2) := by decide +kernel
theorem dX6_number_67 : decode cX6_number 67 = .ok (.isub, 1) := by decide +kernel
theorem dX6_number_68 : decode cX6_number 68 = .ok (.bipush 47, 2) := by decide +kernel
theorem dX6_number_70 : decode cX6_number 70 = .ok (.if_icmp .gt 31, 3) := by decide +kernel
theorem dX6_number_73 : decode cX6_number 73 = .ok (.bipush 10, 2) := by decide +kernel
theorem dX6_number_75 : decode cX6_number 75 = .ok (.iload_n 1, 1) := by decide +kernel
theorem dX6_number_76 : decode cX6_number 76 = .ok (.imul, 1) := by decide +kernel
theorem dX6_number_77 : decode cX6_number 77 = .ok (.aload_n 0, 1) := by decide +kernel
theorem dX6_number_78 : decode cX6_number 78 = .ok (.getfield 13, 3) := by decide +kernel
theorem dX6_number_81 : decode cX6_number 81 = .ok (.aload_n 0, 1) := by decide +kernel
theorem dX6_number_82 : decode cX6_number 82 = .ok (.getfield 133, 3) := by decide +kernel
theorem dX6_number_85 : decode cX6_number 85 = .ok (.iaload, 1) := by decide +kernel
theorem dX6_number_86 : decode cX6_number 86 = .ok (.iadd, 1) := by decide +kernel
theorem dX6_number_87 : decode cX6_number 87 = .ok (.bipush 48, 2) := by decide +kernel
theorem dX6_number_89 : decode cX6_number 89 = .ok (.isub, 1) := by decide +kernel
theorem dX6_number_90 : decode cX6_number 90 = .ok (.istore_n 1, 1) := by decide +kernel
theorem dX6_number_91 : decode cX6_number 91 = .ok (.aload_n 0, 1) := by decide +kernel
theorem dX6_number_92 : decode cX6_number 92 = .ok (.dup, 1) := by decide +kernel
theorem dX6_number_93 : decode cX6_number 93 = .ok (.getfield 133, 3) := by decide +kernel
theorem dX6_number_96 : decode cX6_number 96 = .ok (.iconst 1, 1) := by decide +kernel
theorem dX6_number_97 : decode cX6_number 97 = .ok (.iadd, 1) := by decide +kernel
theorem dX6_number_98 : decode cX6_number 98 = .ok (.putfield 133, 3) := by decide +kernel
theorem dX6_number_101 : decode cX6_number 101 = .ok (.iload_n 1, 1) := by decide +kernel
theorem dX6_number_102 : decode cX6_number 102 = .ok (.ireturn, 1) := by decide +kernel
set_option maxRecDepth 20000 in
theorem ggX6_digit_X6_isHere : GoodIn wsX6_digit wsX6_isHere := goodIn_r _ [7, 1, 8, 2, 9, 10, 6, 11, 12, 13, 14, 15, 16, 17, 18, 19, 20, 21, 22, 23] (by decide +kernel) (by decide +kernel)
set_option maxRecDepth 20000 in
theorem gX6_digit_X6_isHere : GoodIn wsX6_digit (wsV RX6 136 RX6 yX6_isHere wsX6_isHere) := goodIn_app (goodIn_of _ (by decide +kernel)) ggX6_digit_X6_isHere
theorem dX6_digit_0 : decode cX6_digit 0 = .ok (.aload_n 0, 1) := by decide +kernel
theorem dX6_digit_1 : decode cX6_digit 1 = .ok (.bipush 48, 2) := by decide +kernel
theorem dX6_digit_3 : decode cX6_digit 3 = .ok (.bipush 55, 2) := by decide +kernel
theorem dX6_digit_5 : decode cX6_digit 5 = .ok (.invokevirtual 136, 3) := by decide +kernel
theorem dX6_digit_8 : decode cX6_digit 8 = .ok (.ifCond .ne 5, 3) := by decide +kernel
theorem dX6_digit_11 : decode cX6_digit 11 = .ok (.iconst (-1), 1) := by decide +kernel
theorem dX6_digit_12 : decode cX6_digit 12 = .ok (.ireturn, 1) := by decide +kernel
theorem dX6_digit_13 : decode cX6_digit 13 = .ok (.aload_n 0, 1) := by decide +kernel
theorem dX6_digit_14 : decode cX6_digit 14 = .ok (.dup, 1) := by decide +kernel
theorem dX6_digit_15 : decode cX6_digit 15 = .ok (.getfield 133, 3) := by decide +kernel
theorem dX6_digit_18 : decode cX6_digit 18 = .ok (.iconst 1, 1) := by decide +kernel
theorem dX6_digit_19 : decode cX6_digit 19 = .ok (.iadd, 1) := by decide +kernel
theorem dX6_digit_20 : decode cX6_digit 20 = .ok (.putfield 133, 3) := by decide +kernel
theorem dX6_digit_23 : decode cX6_digit 23 = .ok (.aload_n 0, 1) := by decide +kernel
theorem dX6_digit_24 : decode cX6_digit 24 = .ok (.getfield 13, 3) := by decide +kernel
theorem dX6_digit_27 : decode cX6_digit 27 = .ok (.aload_n 0, 1) := by decide +kernel
theorem dX6_digit_28 : decode cX6_digit 28 = .ok (.getfield 133, 3) := by decide +kernel
theorem dX6_digit_31 : decode cX6_digit 31 = .ok (.iconst 1, 1) := by decide +kernel
theorem dX6_digit_32 : decode cX6_digit 32 = .ok (.isub, 1) := by decide +kernel
theorem dX6_digit_33 : decode cX6_digit 33 = .ok (.iaload, 1) := by decide +kernel
theorem dX6_digit_34 : decode cX6_digit 34 = .ok (.bipush 48, 2) := by decide +kernel
theorem dX6_digit_36 : decode cX6_digit 36 = .ok (.isub, 1) := by decide +kernel
theorem dX6_digit_37 : decode cX6_digit 37 = .ok (.ireturn, 1) := by decide +kernel
set_option maxRecDepth 20000 in
theorem ggX6_reads_X6_takes : GoodIn wsX6_reads wsX6_takes := goodIn_r _ [8, 9, 10, 11, 12, 7, 13, 14, 15, 16, 17, 18, 27, 28, 29, 30, 31, 32, 33, 34, 35, 36, 37, 38] (by decide +kernel) (by decide +kernel)
set_option maxRecDepth 20000 in
theorem gX6_reads_X6_takes : GoodIn wsX6_reads (wsV RX6 139 RX6 yX6_takes wsX6_takes) := goodIn_app (goodIn_of _ (by decide +kernel)) ggX6_reads_X6_takes
set_option maxRecDepth 20000 in
theorem ggX6_reads_X6_number : GoodIn wsX6_reads wsX6_number := goodIn_r _ [22, 15, 9, 10, 11, 12, 7, 13, 14, 16, 17, 18, 27, 28, 29, 30, 31, 32, 33, 34, 35, 36, 37, 38] (by decide +kernel) (by decide +kernel)
set_option maxRecDepth 20000 in
theorem gX6_reads_X6_number : GoodIn wsX6_reads (wsV RX6 146 RX6 yX6_number wsX6_number) := goodIn_app (goodIn_of _ (by decide +kernel)) ggX6_reads_X6_number
set_option maxRecDepth 20000 in
theorem ggX6_reads_X6_digit : GoodIn wsX6_reads wsX6_digit := goodIn_r _ [26, 9, 15, 10, 11, 12, 7, 13, 14, 16, 17, 18, 27, 28, 29, 30, 31, 32, 33, 34, 35, 36, 37, 38] (by decide +kernel) (by decide +kernel)
set_option maxRecDepth 20000 in
theorem gX6_reads_X6_digit : GoodIn wsX6_reads (wsV RX6 156 RX6 yX6_digit wsX6_digit) := goodIn_app (goodIn_of _ (by decide +kernel)) ggX6_reads_X6_digit
theorem dX6_reads_0 : decode cX6_reads 0 = .ok (.aload_n 0, 1) := by decide +kernel
theorem dX6_reads_1 : decode cX6_reads 1 = .ok (.bipush 99, 2) := by decide +kernel
theorem dX6_reads_3 : decode cX6_reads 3 = .ok (.invokevirtual 139, 3) := by decide +kernel
theorem dX6_reads_6 : decode cX6_reads 6 = .ok (.ifCond .eq 57, 3) := by decide +kernel
theorem dX6_reads_9 : decode cX6_reads 9 = .ok (.aload_n 0, 1) := by decide +kernel
theorem dX6_reads_10 : decode cX6_reads 10 = .ok (.iconst 0, 1) := by decide +kernel
theorem dX6_reads_11 : decode cX6_reads 11 = .ok (.putfield 143, 3) := by decide +kernel
theorem dX6_reads_14 : decode cX6_reads 14 = .ok (.aload_n 0, 1) := by decide +kernel
theorem dX6_reads_15 : decode cX6_reads 15 = .ok (.aload_n 0, 1) := by decide +kernel
theorem dX6_reads_16 : decode cX6_reads 16 = .ok (.invokevirtual 146, 3) := by decide +kernel
theorem dX6_reads_19 : decode cX6_reads 19 = .ok (.putfield 150, 3) := by decide +kernel
theorem dX6_reads_22 : decode cX6_reads 22 = .ok (.aload_n 0, 1) := by decide +kernel
theorem dX6_reads_23 : decode cX6_reads 23 = .ok (.getfield 150, 3) := by decide +kernel
theorem dX6_reads_26 : decode cX6_reads 26 = .ok (.iconst (-1), 1) := by decide +kernel
theorem dX6_reads_27 : decode cX6_reads 27 = .ok (.if_icmp .eq 12, 3) := by decide +kernel
theorem dX6_reads_30 : decode cX6_reads 30 = .ok (.aload_n 0, 1) := by decide +kernel
theorem dX6_reads_31 : decode cX6_reads 31 = .ok (.bipush 45, 2) := by decide +kernel
theorem dX6_reads_33 : decode cX6_reads 33 = .ok (.invokevirtual 139, 3) := by decide +kernel
theorem dX6_reads_36 : decode cX6_reads 36 = .ok (.ifCond .ne 5, 3) := by decide +kernel
theorem dX6_reads_39 : decode cX6_reads 39 = .ok (.iconst 0, 1) := by decide +kernel
theorem dX6_reads_40 : decode cX6_reads 40 = .ok (.ireturn, 1) := by decide +kernel
theorem dX6_reads_41 : decode cX6_reads 41 = .ok (.aload_n 0, 1) := by decide +kernel
theorem dX6_reads_42 : decode cX6_reads 42 = .ok (.aload_n 0, 1) := by decide +kernel
theorem dX6_reads_43 : decode cX6_reads 43 = .ok (.invokevirtual 146, 3) := by decide +kernel
theorem dX6_reads_46 : decode cX6_reads 46 = .ok (.putfield 153, 3) := by decide +kernel
theorem dX6_reads_49 : decode cX6_reads 49 = .ok (.aload_n 0, 1) := by decide +kernel
theorem dX6_reads_50 : decode cX6_reads 50 = .ok (.getfield 153, 3) := by decide +kernel
theorem dX6_reads_53 : decode cX6_reads 53 = .ok (.iconst (-1), 1) := by decide +kernel
theorem dX6_reads_54 : decode cX6_reads 54 = .ok (.if_icmp .eq 7, 3) := by decide +kernel
theorem dX6_reads_57 : decode cX6_reads 57 = .ok (.iconst 1, 1) := by decide +kernel
theorem dX6_reads_58 : decode cX6_reads 58 = .ok (.goto 4, 3) := by decide +kernel
theorem dX6_reads_61 : decode cX6_reads 61 = .ok (.iconst 0, 1) := by decide +kernel
theorem dX6_reads_62 : decode cX6_reads 62 = .ok (.ireturn, 1) := by decide +kernel
theorem dX6_reads_63 : decode cX6_reads 63 = .ok (.aload_n 0, 1) := by decide +kernel
theorem dX6_reads_64 : decode cX6_reads 64 = .ok (.bipush 100, 2) := by decide +kernel
theorem dX6_reads_66 : decode cX6_reads 66 = .ok (.invokevirtual 139, 3) := by decide +kernel
theorem dX6_reads_69 : decode cX6_reads 69 = .ok (.ifCond .eq 30, 3) := by decide +kernel
theorem dX6_reads_72 : decode cX6_reads 72 = .ok (.aload_n 0, 1) := by decide +kernel
theorem dX6_reads_73 : decode cX6_reads 73 = .ok (.iconst 1, 1) := by decide +kernel
theorem dX6_reads_74 : decode cX6_reads 74 = .ok (.putfield 143, 3) := by decide +kernel
theorem dX6_reads_77 : decode cX6_reads 77 = .ok (.aload_n 0, 1) := by decide +kernel
theorem dX6_reads_78 : decode cX6_reads 78 = .ok (.aload_n 0, 1) := by decide +kernel
theorem dX6_reads_79 : decode cX6_reads 79 = .ok (.invokevirtual 146, 3) := by decide +kernel
theorem dX6_reads_82 : decode cX6_reads 82 = .ok (.putfield 150, 3) := by decide +kernel
theorem dX6_reads_85 : decode cX6_reads 85 = .ok (.aload_n 0, 1) := by decide +kernel
theorem dX6_reads_86 : decode cX6_reads 86 = .ok (.getfield 150, 3) := by decide +kernel
theorem dX6_reads_89 : decode cX6_reads 89 = .ok (.iconst (-1), 1) := by decide +kernel
theorem dX6_reads_90 : decode cX6_reads 90 = .ok (.if_icmp .eq 7, 3) := by decide +kernel
theorem dX6_reads_93 : decode cX6_reads 93 = .ok (.iconst 1, 1) := by decide +kernel
theorem dX6_reads_94 : decode cX6_reads 94 = .ok (.goto 4, 3) := by decide +kernel
theorem dX6_reads_97 : decode cX6_reads 97 = .ok (.iconst 0, 1) := by decide +kernel
theorem dX6_reads_98 : decode cX6_reads 98 = .ok (.ireturn, 1) := by decide +kernel
theorem dX6_reads_99 : decode cX6_reads 99 = .ok (.aload_n 0, 1) := by decide +kernel
theorem dX6_reads_100 : decode cX6_reads 100 = .ok (.aload_n 0, 1) := by decide +kernel
theorem dX6_reads_101 : decode cX6_reads 101 = .ok (.bipush 111, 2) := by decide +kernel
theorem dX6_reads_103 : decode cX6_reads 103 = .ok (.invokevirtual 139, 3) := by decide +kernel
theorem dX6_reads_106 : decode cX6_reads 106 = .ok (.ifCond .eq 7, 3) := by decide +kernel
theorem dX6_reads_109 : decode cX6_reads 109 = .ok (.iconst 2, 1) := by decide +kernel
theorem dX6_reads_110 : decode cX6_reads 110 = .ok (.goto 30, 3) := by decide +kernel
theorem dX6_reads_113 : decode cX6_reads 113 = .ok (.aload_n 0, 1) := by decide +kernel
theorem dX6_reads_114 : decode cX6_reads 114 = .ok (.bipush 105, 2) := by decide +kernel
theorem dX6_reads_116 : decode cX6_reads 116 = .ok (.invokevirtual 139, 3) := by decide +kernel
theorem dX6_reads_119 : decode cX6_reads 119 = .ok (.ifCond .eq 7, 3) := by decide +kernel
theorem dX6_reads_122 : decode cX6_reads 122 = .ok (.iconst 3, 1) := by decide +kernel
theorem dX6_reads_123 : decode cX6_reads 123 = .ok (.goto 17, 3) := by decide +kernel
theorem dX6_reads_126 : decode cX6_reads 126 = .ok (.aload_n 0, 1) := by decide +kernel
theorem dX6_reads_127 : decode cX6_reads 127 = .ok (.bipush 112, 2) := by decide +kernel
theorem dX6_reads_129 : decode cX6_reads 129 = .ok (.invokevirtual 139, 3) := by decide +kernel
theorem dX6_reads_132 : decode cX6_reads 132 = .ok (.ifCond .eq 7, 3) := by decide +kernel
theorem dX6_reads_135 : decode cX6_reads 135 = .ok (.iconst 4, 1) := by decide +kernel
theorem dX6_reads_136 : decode cX6_reads 136 = .ok (.goto 4, 3) := by decide +kernel
theorem dX6_reads_139 : decode cX6_reads 139 = .ok (.iconst (-1), 1) := by decide +kernel
theorem dX6_reads_140 : decode cX6_reads 140 = .ok (.putfield 143, 3) := by decide +kernel
theorem dX6_reads_143 : decode cX6_reads 143 = .ok (.aload_n 0, 1) := by decide +kernel
theorem dX6_reads_144 : decode cX6_reads 144 = .ok (.aload_n 0, 1) := by decide +kernel
theorem dX6_reads_145 : decode cX6_reads 145 = .ok (.getfield 143, 3) := by decide +kernel
theorem dX6_reads_148 : decode cX6_reads 148 = .ok (.iconst 2, 1) := by decide +kernel
theorem dX6_reads_149 : decode cX6_reads 149 = .ok (.if_icmp .eq 11, 3) := by decide +kernel
theorem dX6_reads_152 : decode cX6_reads 152 = .ok (.aload_n 0, 1) := by decide +kernel
theorem dX6_reads_153 : decode cX6_reads 153 = .ok (.getfield 143, 3) := by decide +kernel
theorem dX6_reads_156 : decode cX6_reads 156 = .ok (.iconst 3, 1) := by decide +kernel
theorem dX6_reads_157 : decode cX6_reads 157 = .ok (.if_icmp .ne 10, 3) := by decide +kernel
theorem dX6_reads_160 : decode cX6_reads 160 = .ok (.aload_n 0, 1) := by decide +kernel
theorem dX6_reads_161 : decode cX6_reads 161 = .ok (.invokevirtual 156, 3) := by decide +kernel
theorem dX6_reads_164 : decode cX6_reads 164 = .ok (.goto 4, 3) := by decide +kernel
theorem dX6_reads_167 : decode cX6_reads 167 = .ok (.iconst 0, 1) := by decide +kernel
theorem dX6_reads_168 : decode cX6_reads 168 = .ok (.putfield 150, 3) := by decide +kernel
theorem dX6_reads_171 : decode cX6_reads 171 = .ok (.aload_n 0, 1) := by decide +kernel
theorem dX6_reads_172 : decode cX6_reads 172 = .ok (.getfield 143, 3) := by decide +kernel
theorem dX6_reads_175 : decode cX6_reads 175 = .ok (.iconst (-1), 1) := by decide +kernel
theorem dX6_reads_176 : decode cX6_reads 176 = .ok (.if_icmp .eq 15, 3) := by decide +kernel
theorem dX6_reads_179 : decode cX6_reads 179 = .ok (.aload_n 0, 1) := by decide +kernel
theorem dX6_reads_180 : decode cX6_reads 180 = .ok (.getfield 150, 3) := by decide +kernel
theorem dX6_reads_183 : decode cX6_reads 183 = .ok (.iconst (-1), 1) := by decide +kernel
theorem dX6_reads_184 : decode cX6_reads 184 = .ok (.if_icmp .eq 7, 3) := by decide +kernel
theorem dX6_reads_187 : decode cX6_reads 187 = .ok (.iconst 1, 1) := by decide +kernel
theorem dX6_reads_188 : decode cX6_reads 188 = .ok (.goto 4, 3) := by decide +kernel
theorem dX6_reads_191 : decode cX6_reads 191 = .ok (.iconst 0, 1) := by decide +kernel
theorem dX6_reads_192 : decode cX6_reads 192 = .ok (.ireturn, 1) := by decide +kernel
set_option maxRecDepth 20000 in
theorem ggX6_fault_X6_reads : GoodIn wsX6_fault wsX6_reads := goodIn_r _ [7, 8, 9, 10, 11, 12, 13, 6, 14, 1, 15, 16, 17, 18, 2, 19, 20, 21, 22, 23, 24, 25, 26, 27, 28, 29, 30, 31, 32, 33, 34, 35, 36, 37, 38, 39, 40, 41, 42] (by decide +kernel) (by decide +kernel)
set_option maxRecDepth 20000 in
theorem gX6_fault_X6_reads : GoodIn wsX6_fault (wsV RX6 159 RX6 yX6_reads wsX6_reads) := goodIn_app (goodIn_of _ (by decide +kernel)) ggX6_fault_X6_reads
set_option maxRecDepth 20000 in
theorem ggX6_fault_X6_takes : GoodIn wsX6_fault wsX6_takes := goodIn_r _ [14, 1, 15, 16, 17, 6, 18, 2, 19, 20, 21, 22, 31, 32, 33, 34, 35, 36, 37, 38, 39, 40, 41, 42] (by decide +kernel) (by decide +kernel)
set_option maxRecDepth 20000 in
theorem gX6_fault_X6_takes : GoodIn wsX6_fault (wsV RX6 139 RX6 yX6_takes wsX6_takes) := goodIn_app (goodIn_of _ (by decide +kernel)) ggX6_fault_X6_takes
theorem dX6_fault_0 : decode cX6_fault 0 = .ok (.aload_n 0, 1) := by decide +kernel
theorem dX6_fault_1 : decode cX6_fault 1 = .ok (.iconst 0, 1) := by decide +kernel
theorem dX6_fault_2 : decode cX6_fault 2 = .ok (.putfield 133, 3) := by decide +kernel
theorem dX6_fault_5 : decode cX6_fault 5 = .ok (.aload_n 0, 1) := by decide +kernel
theorem dX6_fault_6 : decode cX6_fault 6 = .ok (.invokevirtual 159, 3) := by decide +kernel
theorem dX6_fault_9 : decode cX6_fault 9 = .ok (.ifCond .eq 30, 3) := by decide +kernel
theorem dX6_fault_12 : decode cX6_fault 12 = .ok (.aload_n 0, 1) := by decide +kernel
theorem dX6_fault_13 : decode cX6_fault 13 = .ok (.getfield 133, 3) := by decide +kernel
theorem dX6_fault_16 : decode cX6_fault 16 = .ok (.aload_n 0, 1) := by decide +kernel
theorem dX6_fault_17 : decode cX6_fault 17 = .ok (.getfield 130, 3) := by decide +kernel
theorem dX6_fault_20 : decode cX6_fault 20 = .ok (.if_icmp .ne 5, 3) := by decide +kernel
theorem dX6_fault_23 : decode cX6_fault 23 = .ok (.iconst (-1), 1) := by decide +kernel
theorem dX6_fault_24 : decode cX6_fault 24 = .ok (.ireturn, 1) := by decide +kernel
theorem dX6_fault_25 : decode cX6_fault 25 = .ok (.aload_n 0, 1) := by decide +kernel
theorem dX6_fault_26 : decode cX6_fault 26 = .ok (.bipush 59, 2) := by decide +kernel
theorem dX6_fault_28 : decode cX6_fault 28 = .ok (.invokevirtual 139, 3) := by decide +kernel
theorem dX6_fault_31 : decode cX6_fault 31 = .ok (.ifCond .ne (-26), 3) := by decide +kernel
theorem dX6_fault_34 : decode cX6_fault 34 = .ok (.aload_n 0, 1) := by decide +kernel
theorem dX6_fault_35 : decode cX6_fault 35 = .ok (.getfield 133, 3) := by decide +kernel
theorem dX6_fault_38 : decode cX6_fault 38 = .ok (.ireturn, 1) := by decide +kernel
theorem dX6_fault_39 : decode cX6_fault 39 = .ok (.aload_n 0, 1) := by decide +kernel
theorem dX6_fault_40 : decode cX6_fault 40 = .ok (.getfield 133, 3) := by decide +kernel
theorem dX6_fault_43 : decode cX6_fault 43 = .ok (.ireturn, 1) := by decide +kernel
set_option maxRecDepth 20000 in
theorem ggX6_carries_X6_connects : GoodIn wsX6_carries wsX6_connects := goodIn_r _ [8, 9, 10, 11, 12, 7, 13, 14, 15, 16, 17, 18, 19, 20, 21, 22, 23, 24, 25, 26, 27, 28, 29, 30, 31, 32, 33, 34, 35, 36, 37, 38, 39, 40, 41, 42, 43, 44, 45, 46, 47, 48, 49, 50, 51, 52, 53, 54, 55, 56, 57, 58, 59, 60, 61, 62, 63, 64, 65, 66, 67, 68, 69, 70, 71, 72, 73, 74, 75, 76, 113, 114, 115, 116, 117, 118, 119, 120, 121, 122, 123, 124] (by decide +kernel) (by decide +kernel)
set_option maxRecDepth 20000 in
theorem gX6_carries_X6_connects : GoodIn wsX6_carries (wsV RX6 115 RX6 yX6_connects wsX6_connects) := goodIn_app (goodIn_of _ (by decide +kernel)) ggX6_carries_X6_connects
set_option maxRecDepth 20000 in
theorem ggX6_carries_X6_disconnects : GoodIn wsX6_carries wsX6_disconnects := goodIn_r _ [80, 9, 10, 11, 12, 7, 13, 14, 15, 16, 17, 18, 19, 20, 21, 22, 23, 24, 29, 30, 31, 32, 113, 114, 115, 116, 117, 118, 119, 120, 121, 122, 123, 124] (by decide +kernel) (by decide +kernel)
set_option maxRecDepth 20000 in
theorem gX6_carries_X6_disconnects : GoodIn wsX6_carries (wsV RX6 118 RX6 yX6_disconnects wsX6_disconnects) := goodIn_app (goodIn_of _ (by decide +kernel)) ggX6_carries_X6_disconnects
set_option maxRecDepth 20000 in
theorem ggX6_carries_X6_takesOut : GoodIn wsX6_carries wsX6_takesOut := goodIn_r _ [84, 9, 85, 86, 87, 7, 88, 18, 19, 20, 43, 44, 45, 14, 15, 16, 17, 21, 22, 23, 24, 29, 30, 31, 32, 89, 90, 91, 92, 33, 34, 35, 36, 37, 38, 39, 40, 41, 42, 46, 47, 48, 49, 50, 51, 52, 53, 54, 55, 56, 57, 58, 59, 60, 61, 62, 63, 64, 65, 66, 67, 68, 69, 70, 71, 72, 73, 74, 75, 76, 113, 114, 115, 116, 117, 118, 119, 120, 121, 122, 123, 124] (by decide +kernel) (by decide +kernel)
set_option maxRecDepth 20000 in
theorem gX6_carries_X6_takesOut : GoodIn wsX6_carries (wsV RX6 121 RX6 yX6_takesOut wsX6_takesOut) := goodIn_app (goodIn_of _ (by decide +kernel)) ggX6_carries_X6_takesOut
set_option maxRecDepth 20000 in
theorem ggX6_carries_X6_putsBack : GoodIn wsX6_carries wsX6_putsBack := goodIn_r _ [96, 9, 85, 86, 87, 7, 88, 18, 19, 20, 43, 44, 45, 97, 98, 99, 113, 114, 115, 116, 117, 118, 119, 120, 121, 122, 123, 124] (by decide +kernel) (by decide +kernel)
set_option maxRecDepth 20000 in
theorem gX6_carries_X6_putsBack : GoodIn wsX6_carries (wsV RX6 124 RX6 yX6_putsBack wsX6_putsBack) := goodIn_app (goodIn_of _ (by decide +kernel)) ggX6_carries_X6_putsBack
set_option maxRecDepth 20000 in
theorem ggX6_carries_X6_packs : GoodIn wsX6_carries wsX6_packs := goodIn_r _ [103, 9, 104, 105, 106, 107, 7, 108, 14, 15, 16, 17, 21, 22, 23, 24, 109, 110, 111, 112, 43, 44, 45, 97, 98, 99, 29, 30, 31, 32, 89, 90, 91, 92, 33, 34, 35, 36, 37, 38, 39, 40, 41, 42, 46, 47, 48, 49, 50, 51, 52, 53, 54, 55, 56, 57, 58, 59, 60, 61, 62, 63, 64, 65, 66, 67, 68, 69, 70, 71, 72, 73, 74, 75, 76, 113, 114, 115, 116, 117, 118, 119, 120, 121, 122, 123, 124] (by decide +kernel) (by decide +kernel)
set_option maxRecDepth 20000 in
theorem gX6_carries_X6_packs : GoodIn wsX6_carries (wsV RX6 127 RX6 yX6_packs wsX6_packs) := goodIn_app (goodIn_of _ (by decide +kernel)) ggX6_carries_X6_packs
theorem dX6_carries_0 : decode cX6_carries 0 = .ok (.aload_n 0, 1) := by decide +kernel
theorem dX6_carries_1 : decode cX6_carries 1 = .ok (.getfield 143, 3) := by decide +kernel
theorem dX6_carries_4 : decode cX6_carries 4 = .ok (.tableswitch 84 0 3 #[32, 48, 60, 72], 32) := by decide +kernel
theorem dX6_carries_36 : decode cX6_carries 36 = .ok (.aload_n 0, 1) := by decide +kernel
theorem dX6_carries_37 : decode cX6_carries 37 = .ok (.sipush 924, 3) := by decide +kernel
theorem dX6_carries_40 : decode cX6_carries 40 = .ok (.aload_n 0, 1) := by decide +kernel
theorem dX6_carries_41 : decode cX6_carries 41 = .ok (.getfield 150, 3) := by decide +kernel
theorem dX6_carries_44 : decode cX6_carries 44 = .ok (.aload_n 0, 1) := by decide +kernel
theorem dX6_carries_45 : decode cX6_carries 45 = .ok (.getfield 153, 3) := by decide +kernel
theorem dX6_carries_48 : decode cX6_carries 48 = .ok (.invokevirtual 115, 3) := by decide +kernel
theorem dX6_carries_51 : decode cX6_carries 51 = .ok (.ireturn, 1) := by decide +kernel
theorem dX6_carries_52 : decode cX6_carries 52 = .ok (.aload_n 0, 1) := by decide +kernel
theorem dX6_carries_53 : decode cX6_carries 53 = .ok (.sipush 924, 3) := by decide +kernel
theorem dX6_carries_56 : decode cX6_carries 56 = .ok (.aload_n 0, 1) := by decide +kernel
theorem dX6_carries_57 : decode cX6_carries 57 = .ok (.getfield 150, 3) := by decide +kernel
theorem dX6_carries_60 : decode cX6_carries 60 = .ok (.invokevirtual 118, 3) := by decide +kernel
theorem dX6_carries_63 : decode cX6_carries 63 = .ok (.ireturn, 1) := by decide +kernel
theorem dX6_carries_64 : decode cX6_carries 64 = .ok (.aload_n 0, 1) := by decide +kernel
theorem dX6_carries_65 : decode cX6_carries 65 = .ok (.sipush 924, 3) := by decide +kernel
theorem dX6_carries_68 : decode cX6_carries 68 = .ok (.aload_n 0, 1) := by decide +kernel
theorem dX6_carries_69 : decode cX6_carries 69 = .ok (.getfield 150, 3) := by decide +kernel
theorem dX6_carries_72 : decode cX6_carries 72 = .ok (.invokevirtual 121, 3) := by decide +kernel
theorem dX6_carries_75 : decode cX6_carries 75 = .ok (.ireturn, 1) := by decide +kernel
theorem dX6_carries_76 : decode cX6_carries 76 = .ok (.aload_n 0, 1) := by decide +kernel
theorem dX6_carries_77 : decode cX6_carries 77 = .ok (.sipush 924, 3) := by decide +kernel
theorem dX6_carries_80 : decode cX6_carries 80 = .ok (.aload_n 0, 1) := by decide +kernel
theorem dX6_carries_81 : decode cX6_carries 81 = .ok (.getfield 150, 3) := by decide +kernel
theorem dX6_carries_84 : decode cX6_carries 84 = .ok (.invokevirtual 124, 3) := by decide +kernel
theorem dX6_carries_87 : decode cX6_carries 87 = .ok (.ireturn, 1) := by decide +kernel
theorem dX6_carries_88 : decode cX6_carries 88 = .ok (.aload_n 0, 1) := by decide +kernel
theorem dX6_carries_89 : decode cX6_carries 89 = .ok (.sipush 924, 3) := by decide +kernel
theorem dX6_carries_92 : decode cX6_carries 92 = .ok (.invokevirtual 127, 3) := by decide +kernel
theorem dX6_carries_95 : decode cX6_carries 95 = .ok (.ireturn, 1) := by decide +kernel
set_option maxRecDepth 20000 in
theorem ggX6_perform_X6_fault : GoodIn wsX6_perform wsX6_fault := goodIn_r _ [6, 1, 7, 8, 9, 10, 5, 11, 12, 13, 14, 15, 16, 17, 18, 19, 20, 21, 22, 23, 24, 25, 26, 27, 28, 29, 30, 31, 32, 33, 34, 153, 154, 155, 156, 157, 158, 159, 160, 161, 162, 163, 164] (by decide +kernel) (by decide +kernel)
set_option maxRecDepth 20000 in
theorem gX6_perform_X6_fault : GoodIn wsX6_perform (wsV RX6 163 RX6 yX6_fault wsX6_fault) := goodIn_app (goodIn_of _ (by decide +kernel)) ggX6_perform_X6_fault
set_option maxRecDepth 20000 in
theorem ggX6_perform_X6_copies : GoodIn wsX6_perform wsX6_copies := goodIn_r _ [38, 39, 153, 154, 155, 156, 157, 158, 159, 160, 161, 162, 163, 164] (by decide +kernel) (by decide +kernel)
set_option maxRecDepth 20000 in
theorem gX6_perform_X6_copies : GoodIn wsX6_perform (wsV RX6 105 RX6 yX6_copies wsX6_copies) := goodIn_app (goodIn_of _ (by decide +kernel)) ggX6_perform_X6_copies
set_option maxRecDepth 20000 in
theorem ggX6_perform_X6_reads : GoodIn wsX6_perform wsX6_reads := goodIn_r _ [11, 12, 13, 14, 15, 16, 17, 5, 18, 1, 19, 20, 21, 22, 7, 23, 24, 25, 26, 27, 28, 29, 30, 31, 32, 33, 34, 153, 154, 155, 156, 157, 158, 159, 160, 161, 162, 163, 164] (by decide +kernel) (by decide +kernel)
set_option maxRecDepth 20000 in
theorem gX6_perform_X6_reads : GoodIn wsX6_perform (wsV RX6 159 RX6 yX6_reads wsX6_reads) := goodIn_app (goodIn_of _ (by decide +kernel)) ggX6_perform_X6_reads
set_option maxRecDepth 20000 in
theorem ggX6_perform_X6_carries : GoodIn wsX6_perform wsX6_carries := goodIn_r _ [43, 12, 13, 14, 44, 45, 46, 5, 47, 39, 48, 49, 50, 51, 52, 53, 54, 55, 24, 25, 26, 56, 57, 58, 59, 60, 61, 62, 63, 64, 65, 66, 67, 68, 69, 70, 71, 72, 73, 74, 75, 76, 77, 78, 79, 80, 81, 82, 83, 84, 85, 86, 87, 88, 89, 90, 91, 92, 93, 94, 95, 96, 97, 98, 99, 100, 101, 102, 103, 104, 105, 106, 107, 108, 109, 110, 111, 112, 113, 114, 115, 116, 117, 118, 119, 120, 121, 122, 123, 124, 125, 126, 127, 128, 129, 130, 131, 132, 133, 134, 135, 136, 137, 138, 139, 140, 141, 142, 143, 144, 145, 146, 147, 153, 154, 155, 156, 157, 158, 159, 160, 161, 162, 163, 164] (by decide +kernel) (by decide +kernel)
set_option maxRecDepth 20000 in
theorem gX6_perform_X6_carries : GoodIn wsX6_perform (wsV RX6 166 RX6 yX6_carries wsX6_carries) := goodIn_app (goodIn_of _ (by decide +kernel)) ggX6_perform_X6_carries
set_option maxRecDepth 20000 in
theorem ggX6_perform_X6_takes : GoodIn wsX6_perform wsX6_takes := goodIn_r _ [18, 1, 19, 20, 21, 5, 22, 7, 23, 24, 25, 26, 153, 154, 155, 156, 157, 158, 159, 160, 161, 162, 163, 164] (by decide +kernel) (by decide +kernel)
set_option maxRecDepth 20000 in
theorem gX6_perform_X6_takes : GoodIn wsX6_perform (wsV RX6 139 RX6 yX6_takes wsX6_takes) := goodIn_app (goodIn_of _ (by decide +kernel)) ggX6_perform_X6_takes
set_option maxRecDepth 20000 in
theorem ggX6_perform_X6_accepts : GoodIn wsX6_perform wsX6_accepts := goodIn_r _ [151, 152, 35, 36, 37, 5, 38, 39, 153, 154, 155, 156, 157, 158, 159, 160, 161, 162, 163, 164] (by decide +kernel) (by decide +kernel)
set_option maxRecDepth 20000 in
theorem gX6_perform_X6_accepts : GoodIn wsX6_perform (wsV RX6 109 RX6 yX6_accepts wsX6_accepts) := goodIn_app (goodIn_of _ (by decide +kernel)) ggX6_perform_X6_accepts
theorem dX6_perform_0 : decode cX6_perform 0 = .ok (.aload_n 0, 1) := by decide +kernel
theorem dX6_perform_1 : decode cX6_perform 1 = .ok (.invokevirtual 163, 3) := by decide +kernel
theorem dX6_perform_4 : decode cX6_perform 4 = .ok (.istore_n 1, 1) := by decide +kernel
theorem dX6_perform_5 : decode cX6_perform 5 = .ok (.iload_n 1, 1) := by decide +kernel
theorem dX6_perform_6 : decode cX6_perform 6 = .ok (.iconst (-1), 1) := by decide +kernel
theorem dX6_perform_7 : decode cX6_perform 7 = .ok (.if_icmp .eq 8, 3) := by decide +kernel
theorem dX6_perform_10 : decode cX6_perform 10 = .ok (.bipush (-100), 2) := by decide +kernel
theorem dX6_perform_12 : decode cX6_perform 12 = .ok (.iload_n 1, 1) := by decide +kernel
theorem dX6_perform_13 : decode cX6_perform 13 = .ok (.isub, 1) := by decide +kernel
theorem dX6_perform_14 : decode cX6_perform 14 = .ok (.ireturn, 1) := by decide +kernel
theorem dX6_perform_15 : decode cX6_perform 15 = .ok (.aload_n 0, 1) := by decide +kernel
theorem dX6_perform_16 : decode cX6_perform 16 = .ok (.iconst 0, 1) := by decide +kernel
theorem dX6_perform_17 : decode cX6_perform 17 = .ok (.bipush 6, 2) := by decide +kernel
theorem dX6_perform_19 : decode cX6_perform 19 = .ok (.invokevirtual 105, 3) := by decide +kernel
theorem dX6_perform_22 : decode cX6_perform 22 = .ok (.aload_n 0, 1) := by decide +kernel
theorem dX6_perform_23 : decode cX6_perform 23 = .ok (.iconst 0, 1) := by decide +kernel
theorem dX6_perform_24 : decode cX6_perform 24 = .ok (.putfield 133, 3) := by decide +kernel
theorem dX6_perform_27 : decode cX6_perform 27 = .ok (.iconst 0, 1) := by decide +kernel
theorem dX6_perform_28 : decode cX6_perform 28 = .ok (.istore_n 2, 1) := by decide +kernel
theorem dX6_perform_29 : decode cX6_perform 29 = .ok (.aload_n 0, 1) := by decide +kernel
theorem dX6_perform_30 : decode cX6_perform 30 = .ok (.invokevirtual 159, 3) := by decide +kernel
theorem dX6_perform_33 : decode cX6_perform 33 = .ok (.istore_n 3, 1) := by decide +kernel
theorem dX6_perform_34 : decode cX6_perform 34 = .ok (.iload_n 3, 1) := by decide +kernel
theorem dX6_perform_35 : decode cX6_perform 35 = .ok (.ifCond .eq 52, 3) := by decide +kernel
theorem dX6_perform_38 : decode cX6_perform 38 = .ok (.aload_n 0, 1) := by decide +kernel
theorem dX6_perform_39 : decode cX6_perform 39 = .ok (.invokevirtual 166, 3) := by decide +kernel
theorem dX6_perform_42 : decode cX6_perform 42 = .ok (.istore 4, 2) := by decide +kernel
theorem dX6_perform_44 : decode cX6_perform 44 = .ok (.iload 4, 2) := by decide +kernel
theorem dX6_perform_46 : decode cX6_perform 46 = .ok (.ifCond .ge 13, 3) := by decide +kernel
theorem dX6_perform_49 : decode cX6_perform 49 = .ok (.iload 4, 2) := by decide +kernel
theorem dX6_perform_51 : decode cX6_perform 51 = .ok (.bipush (-6), 2) := by decide +kernel
theorem dX6_perform_53 : decode cX6_perform 53 = .ok (.if_icmp .eq 6, 3) := by decide +kernel
theorem dX6_perform_56 : decode cX6_perform 56 = .ok (.iload 4, 2) := by decide +kernel
theorem dX6_perform_58 : decode cX6_perform 58 = .ok (.ireturn, 1) := by decide +kernel
theorem dX6_perform_59 : decode cX6_perform 59 = .ok (.iinc 2 1, 3) := by decide +kernel
theorem dX6_perform_62 : decode cX6_perform 62 = .ok (.aload_n 0, 1) := by decide +kernel
theorem dX6_perform_63 : decode cX6_perform 63 = .ok (.bipush 59, 2) := by decide +kernel
theorem dX6_perform_65 : decode cX6_perform 65 = .ok (.invokevirtual 139, 3) := by decide +kernel
theorem dX6_perform_68 : decode cX6_perform 68 = .ok (.ifCond .eq 14, 3) := by decide +kernel
theorem dX6_perform_71 : decode cX6_perform 71 = .ok (.aload_n 0, 1) := by decide +kernel
theorem dX6_perform_72 : decode cX6_perform 72 = .ok (.invokevirtual 159, 3) := by decide +kernel
theorem dX6_perform_75 : decode cX6_perform 75 = .ok (.ifCond .eq 7, 3) := by decide +kernel
theorem dX6_perform_78 : decode cX6_perform 78 = .ok (.iconst 1, 1) := by decide +kernel
theorem dX6_perform_79 : decode cX6_perform 79 = .ok (.goto 4, 3) := by decide +kernel
theorem dX6_perform_82 : decode cX6_perform 82 = .ok (.iconst 0, 1) := by decide +kernel
theorem dX6_perform_83 : decode cX6_perform 83 = .ok (.istore_n 3, 1) := by decide +kernel
theorem dX6_perform_84 : decode cX6_perform 84 = .ok (.goto (-50), 3) := by decide +kernel
theorem dX6_perform_87 : decode cX6_perform 87 = .ok (.aload_n 0, 1) := by decide +kernel
theorem dX6_perform_88 : decode cX6_perform 88 = .ok (.iload_n 2, 1) := by decide +kernel
theorem dX6_perform_89 : decode cX6_perform 89 = .ok (.invokevirtual 109, 3) := by decide +kernel
theorem dX6_perform_92 : decode cX6_perform 92 = .ok (.ireturn, 1) := by decide +kernel
set_option maxRecDepth 20000 in
theorem ggX6_undo_X6_copies : GoodIn wsX6_undo wsX6_copies := goodIn_r _ [6, 7, 8, 9, 10, 11, 12, 13, 14, 15, 16, 17, 18, 19] (by decide +kernel) (by decide +kernel)
set_option maxRecDepth 20000 in
theorem gX6_undo_X6_copies : GoodIn wsX6_undo (wsV RX6 105 RX6 yX6_copies wsX6_copies) := goodIn_app (goodIn_of _ (by decide +kernel)) ggX6_undo_X6_copies
theorem dX6_undo_0 : decode cX6_undo 0 = .ok (.aload_n 0, 1) := by decide +kernel
theorem dX6_undo_1 : decode cX6_undo 1 = .ok (.getfield 102, 3) := by decide +kernel
theorem dX6_undo_4 : decode cX6_undo 4 = .ok (.ifCond .ne 6, 3) := by decide +kernel
theorem dX6_undo_7 : decode cX6_undo 7 = .ok (.bipush (-6), 2) := by decide +kernel
theorem dX6_undo_9 : decode cX6_undo 9 = .ok (.ireturn, 1) := by decide +kernel
theorem dX6_undo_10 : decode cX6_undo 10 = .ok (.aload_n 0, 1) := by decide +kernel
theorem dX6_undo_11 : decode cX6_undo 11 = .ok (.aload_n 0, 1) := by decide +kernel
theorem dX6_undo_12 : decode cX6_undo 12 = .ok (.getfield 102, 3) := by decide +kernel
theorem dX6_undo_15 : decode cX6_undo 15 = .ok (.iconst 0, 1) := by decide +kernel
theorem dX6_undo_16 : decode cX6_undo 16 = .ok (.invokevirtual 105, 3) := by decide +kernel
theorem dX6_undo_19 : decode cX6_undo 19 = .ok (.aload_n 0, 1) := by decide +kernel
theorem dX6_undo_20 : decode cX6_undo 20 = .ok (.dup, 1) := by decide +kernel
theorem dX6_undo_21 : decode cX6_undo 21 = .ok (.getfield 102, 3) := by decide +kernel
theorem dX6_undo_24 : decode cX6_undo 24 = .ok (.iconst 1, 1) := by decide +kernel
theorem dX6_undo_25 : decode cX6_undo 25 = .ok (.isub, 1) := by decide +kernel
theorem dX6_undo_26 : decode cX6_undo 26 = .ok (.putfield 102, 3) := by decide +kernel
theorem dX6_undo_29 : decode cX6_undo 29 = .ok (.aload_n 0, 1) := by decide +kernel
theorem dX6_undo_30 : decode cX6_undo 30 = .ok (.getfield 102, 3) := by decide +kernel
theorem dX6_undo_33 : decode cX6_undo 33 = .ok (.ireturn, 1) := by decide +kernel
set_option maxRecDepth 20000 in
theorem ggX6_keep_X6_copies : GoodIn wsX6_keep wsX6_copies := goodIn_r _ [6, 7, 20, 21, 22, 23, 24, 25, 26, 27, 28, 29, 30, 31] (by decide +kernel) (by decide +kernel)
set_option maxRecDepth 20000 in
theorem gX6_keep_X6_copies : GoodIn wsX6_keep (wsV RX6 105 RX6 yX6_copies wsX6_copies) := goodIn_app (goodIn_of _ (by decide +kernel)) ggX6_keep_X6_copies
set_option maxRecDepth 20000 in
theorem ggX6_keep_X6_calls : GoodIn wsX6_keep wsX6_calls := goodIn_r _ [11, 12, 13, 14, 5, 15, 7, 16, 17, 18, 19, 20, 21, 22, 23, 24, 25, 26, 27, 28, 29, 30, 31] (by decide +kernel) (by decide +kernel)
set_option maxRecDepth 20000 in
theorem gX6_keep_X6_calls : GoodIn wsX6_keep (wsV RX6 96 RX6 yX6_calls wsX6_calls) := goodIn_app (goodIn_of _ (by decide +kernel)) ggX6_keep_X6_calls
theorem dX6_keep_0 : decode cX6_keep 0 = .ok (.aload_n 0, 1) := by decide +kernel
theorem dX6_keep_1 : decode cX6_keep 1 = .ok (.iconst 0, 1) := by decide +kernel
theorem dX6_keep_2 : decode cX6_keep 2 = .ok (.iconst 5, 1) := by decide +kernel
theorem dX6_keep_3 : decode cX6_keep 3 = .ok (.invokevirtual 105, 3) := by decide +kernel
theorem dX6_keep_6 : decode cX6_keep 6 = .ok (.aload_n 0, 1) := by decide +kernel
theorem dX6_keep_7 : decode cX6_keep 7 = .ok (.iconst 1, 1) := by decide +kernel
theorem dX6_keep_8 : decode cX6_keep 8 = .ok (.putfield 169, 3) := by decide +kernel
theorem dX6_keep_11 : decode cX6_keep 11 = .ok (.aload_n 0, 1) := by decide +kernel
theorem dX6_keep_12 : decode cX6_keep 12 = .ok (.iconst 0, 1) := by decide +kernel
theorem dX6_keep_13 : decode cX6_keep 13 = .ok (.invokevirtual 96, 3) := by decide +kernel
theorem dX6_keep_16 : decode cX6_keep 16 = .ok (.ireturn, 1) := by decide +kernel
set_option maxRecDepth 20000 in
theorem ggX6_restore_X6_copies : GoodIn wsX6_restore wsX6_copies := goodIn_r _ [6, 7, 25, 26, 27, 28, 29, 30, 31, 32, 33, 34, 35, 36] (by decide +kernel) (by decide +kernel)
set_option maxRecDepth 20000 in
theorem gX6_restore_X6_copies : GoodIn wsX6_restore (wsV RX6 105 RX6 yX6_copies wsX6_copies) := goodIn_app (goodIn_of _ (by decide +kernel)) ggX6_restore_X6_copies
set_option maxRecDepth 20000 in
theorem ggX6_restore_X6_calls : GoodIn wsX6_restore wsX6_calls := goodIn_r _ [11, 12, 13, 14, 5, 15, 7, 16, 17, 18, 19, 25, 26, 27, 28, 29, 30, 31, 32, 33, 34, 35, 36] (by decide +kernel) (by decide +kernel)
set_option maxRecDepth 20000 in
theorem gX6_restore_X6_calls : GoodIn wsX6_restore (wsV RX6 96 RX6 yX6_calls wsX6_calls) := goodIn_app (goodIn_of _ (by decide +kernel)) ggX6_restore_X6_calls
set_option maxRecDepth 20000 in
theorem ggX6_restore_X6_accepts : GoodIn wsX6_restore wsX6_accepts := goodIn_r _ [23, 24, 2, 3, 4, 5, 6, 7, 25, 26, 27, 28, 29, 30, 31, 32, 33, 34, 35, 36] (by decide +kernel) (by decide +kernel)
set_option maxRecDepth 20000 in
theorem gX6_restore_X6_accepts : GoodIn wsX6_restore (wsV RX6 109 RX6 yX6_accepts wsX6_accepts) := goodIn_app (goodIn_of _ (by decide +kernel)) ggX6_restore_X6_accepts
theorem dX6_restore_0 : decode cX6_restore 0 = .ok (.aload_n 0, 1) := by decide +kernel
theorem dX6_restore_1 : decode cX6_restore 1 = .ok (.getfield 169, 3) := by decide +kernel
theorem dX6_restore_4 : decode cX6_restore 4 = .ok (.ifCond .ne 6, 3) := by decide +kernel
theorem dX6_restore_7 : decode cX6_restore 7 = .ok (.bipush (-6), 2) := by decide +kernel
theorem dX6_restore_9 : decode cX6_restore 9 = .ok (.ireturn, 1) := by decide +kernel
theorem dX6_restore_10 : decode cX6_restore 10 = .ok (.aload_n 0, 1) := by decide +kernel
theorem dX6_restore_11 : decode cX6_restore 11 = .ok (.iconst 5, 1) := by decide +kernel
theorem dX6_restore_12 : decode cX6_restore 12 = .ok (.bipush 6, 2) := by decide +kernel
theorem dX6_restore_14 : decode cX6_restore 14 = .ok (.invokevirtual 105, 3) := by decide +kernel
theorem dX6_restore_17 : decode cX6_restore 17 = .ok (.aload_n 0, 1) := by decide +kernel
theorem dX6_restore_18 : decode cX6_restore 18 = .ok (.aload_n 0, 1) := by decide +kernel
theorem dX6_restore_19 : decode cX6_restore 19 = .ok (.sipush 924, 3) := by decide +kernel
theorem dX6_restore_22 : decode cX6_restore 22 = .ok (.invokevirtual 96, 3) := by decide +kernel
theorem dX6_restore_25 : decode cX6_restore 25 = .ok (.invokevirtual 109, 3) := by decide +kernel
theorem dX6_restore_28 : decode cX6_restore 28 = .ok (.ireturn, 1) := by decide +kernel
set_option maxRecDepth 20000 in
theorem ggX6_callOfInlet_X6_isLine : GoodIn wsX6_callOfInlet wsX6_isLine := goodIn_r _ [5, 6, 7, 8, 4, 9, 10, 11, 12, 13, 18, 19, 20, 21, 22, 23, 24, 25, 26, 27, 28, 29] (by decide +kernel) (by decide +kernel)
set_option maxRecDepth 20000 in
theorem gX6_callOfInlet_X6_isLine : GoodIn wsX6_callOfInlet (wsV RX6 78 RX6 yX6_isLine wsX6_isLine) := goodIn_app (goodIn_of _ (by decide +kernel)) ggX6_callOfInlet_X6_isLine
set_option maxRecDepth 20000 in
theorem ggX6_callOfInlet_X6_of : GoodIn wsX6_callOfInlet wsX6_of := goodIn_r _ [17, 10, 18, 19, 20, 21, 22, 23, 24, 25, 26, 27, 28, 29] (by decide +kernel) (by decide +kernel)
set_option maxRecDepth 20000 in
theorem gX6_callOfInlet_X6_of : GoodIn wsX6_callOfInlet (wsV RX6 41 RX6 yX6_of wsX6_of) := goodIn_app (goodIn_of _ (by decide +kernel)) ggX6_callOfInlet_X6_of
theorem dX6_callOfInlet_0 : decode cX6_callOfInlet 0 = .ok (.aload_n 0, 1) := by decide +kernel
theorem dX6_callOfInlet_1 : decode cX6_callOfInlet 1 = .ok (.iconst 0, 1) := by decide +kernel
theorem dX6_callOfInlet_2 : decode cX6_callOfInlet 2 = .ok (.iload_n 1, 1) := by decide +kernel
theorem dX6_callOfInlet_3 : decode cX6_callOfInlet 3 = .ok (.invokevirtual 78, 3) := by decide +kernel
theorem dX6_callOfInlet_6 : decode cX6_callOfInlet 6 = .ok (.ifCond .ne 5, 3) := by decide +kernel
theorem dX6_callOfInlet_9 : decode cX6_callOfInlet 9 = .ok (.iconst (-1), 1) := by decide +kernel
theorem dX6_callOfInlet_10 : decode cX6_callOfInlet 10 = .ok (.ireturn, 1) := by decide +kernel
theorem dX6_callOfInlet_11 : decode cX6_callOfInlet 11 = .ok (.aload_n 0, 1) := by decide +kernel
theorem dX6_callOfInlet_12 : decode cX6_callOfInlet 12 = .ok (.iconst 0, 1) := by decide +kernel
theorem dX6_callOfInlet_13 : decode cX6_callOfInlet 13 = .ok (.iload_n 1, 1) := by decide +kernel
theorem dX6_callOfInlet_14 : decode cX6_callOfInlet 14 = .ok (.iconst 0, 1) := by decide +kernel
theorem dX6_callOfInlet_15 : decode cX6_callOfInlet 15 = .ok (.invokevirtual 41, 3) := by decide +kernel
theorem dX6_callOfInlet_18 : decode cX6_callOfInlet 18 = .ok (.iconst (-1), 1) := by decide +kernel
theorem dX6_callOfInlet_19 : decode cX6_callOfInlet 19 = .ok (.if_icmp .ne 8, 3) := by decide +kernel
theorem dX6_callOfInlet_22 : decode cX6_callOfInlet 22 = .ok (.bipush (-6), 2) := by decide +kernel
theorem dX6_callOfInlet_24 : decode cX6_callOfInlet 24 = .ok (.goto 10, 3) := by decide +kernel
theorem dX6_callOfInlet_27 : decode cX6_callOfInlet 27 = .ok (.aload_n 0, 1) := by decide +kernel
theorem dX6_callOfInlet_28 : decode cX6_callOfInlet 28 = .ok (.iconst 0, 1) := by decide +kernel
theorem dX6_callOfInlet_29 : decode cX6_callOfInlet 29 = .ok (.iload_n 1, 1) := by decide +kernel
theorem dX6_callOfInlet_30 : decode cX6_callOfInlet 30 = .ok (.iconst 0, 1) := by decide +kernel
theorem dX6_callOfInlet_31 : decode cX6_callOfInlet 31 = .ok (.invokevirtual 41, 3) := by decide +kernel
theorem dX6_callOfInlet_34 : decode cX6_callOfInlet 34 = .ok (.ireturn, 1) := by decide +kernel
set_option maxRecDepth 20000 in
theorem ggX6_callOfOutlet_X6_isLine : GoodIn wsX6_callOfOutlet wsX6_isLine := goodIn_r _ [5, 6, 7, 8, 4, 9, 10, 11, 12, 13, 22, 23, 24, 25, 26, 27, 28, 29, 30, 31, 32, 33] (by decide +kernel) (by decide +kernel)
set_option maxRecDepth 20000 in
theorem gX6_callOfOutlet_X6_isLine : GoodIn wsX6_callOfOutlet (wsV RX6 78 RX6 yX6_isLine wsX6_isLine) := goodIn_app (goodIn_of _ (by decide +kernel)) ggX6_callOfOutlet_X6_isLine
set_option maxRecDepth 20000 in
theorem ggX6_callOfOutlet_X6_inletTo : GoodIn wsX6_callOfOutlet wsX6_inletTo := goodIn_r _ [17, 6, 7, 8, 4, 9, 10, 18, 19, 20, 21, 22, 23, 24, 25, 26, 27, 28, 29, 30, 31, 32, 33] (by decide +kernel) (by decide +kernel)
set_option maxRecDepth 20000 in
theorem gX6_callOfOutlet_X6_inletTo : GoodIn wsX6_callOfOutlet (wsV RX6 81 RX6 yX6_inletTo wsX6_inletTo) := goodIn_app (goodIn_of _ (by decide +kernel)) ggX6_callOfOutlet_X6_inletTo
set_option maxRecDepth 20000 in
theorem ggX6_callOfOutlet_X6_of : GoodIn wsX6_callOfOutlet wsX6_of := goodIn_r _ [21, 10, 22, 23, 24, 25, 26, 27, 28, 29, 30, 31, 32, 33] (by decide +kernel) (by decide +kernel)
set_option maxRecDepth 20000 in
theorem gX6_callOfOutlet_X6_of : GoodIn wsX6_callOfOutlet (wsV RX6 41 RX6 yX6_of wsX6_of) := goodIn_app (goodIn_of _ (by decide +kernel)) ggX6_callOfOutlet_X6_of
theorem dX6_callOfOutlet_0 : decode cX6_callOfOutlet 0 = .ok (.aload_n 0, 1) := by decide +kernel
theorem dX6_callOfOutlet_1 : decode cX6_callOfOutlet 1 = .ok (.iconst 0, 1) := by decide +kernel
theorem dX6_callOfOutlet_2 : decode cX6_callOfOutlet 2 = .ok (.iload_n 1, 1) := by decide +kernel
theorem dX6_callOfOutlet_3 : decode cX6_callOfOutlet 3 = .ok (.invokevirtual 78, 3) := by decide +kernel
theorem dX6_callOfOutlet_6 : decode cX6_callOfOutlet 6 = .ok (.ifCond .ne 5, 3) := by decide +kernel
theorem dX6_callOfOutlet_9 : decode cX6_callOfOutlet 9 = .ok (.iconst (-1), 1) := by decide +kernel
theorem dX6_callOfOutlet_10 : decode cX6_callOfOutlet 10 = .ok (.ireturn, 1) := by decide +kernel
theorem dX6_callOfOutlet_11 : decode cX6_callOfOutlet 11 = .ok (.aload_n 0, 1) := by decide +kernel
theorem dX6_callOfOutlet_12 : decode cX6_callOfOutlet 12 = .ok (.iconst 0, 1) := by decide +kernel
theorem dX6_callOfOutlet_13 : decode cX6_callOfOutlet 13 = .ok (.iload_n 1, 1) := by decide +kernel
theorem dX6_callOfOutlet_14 : decode cX6_callOfOutlet 14 = .ok (.invokevirtual 81, 3) := by decide +kernel
theorem dX6_callOfOutlet_17 : decode cX6_callOfOutlet 17 = .ok (.istore_n 2, 1) := by decide +kernel
theorem dX6_callOfOutlet_18 : decode cX6_callOfOutlet 18 = .ok (.iload_n 2, 1) := by decide +kernel
theorem dX6_callOfOutlet_19 : decode cX6_callOfOutlet 19 = .ok (.iconst (-1), 1) := by decide +kernel
theorem dX6_callOfOutlet_20 : decode cX6_callOfOutlet 20 = .ok (.if_icmp .ne 8, 3) := by decide +kernel
theorem dX6_callOfOutlet_23 : decode cX6_callOfOutlet 23 = .ok (.bipush (-6), 2) := by decide +kernel
theorem dX6_callOfOutlet_25 : decode cX6_callOfOutlet 25 = .ok (.goto 10, 3) := by decide +kernel
theorem dX6_callOfOutlet_28 : decode cX6_callOfOutlet 28 = .ok (.aload_n 0, 1) := by decide +kernel
theorem dX6_callOfOutlet_29 : decode cX6_callOfOutlet 29 = .ok (.iconst 0, 1) := by decide +kernel
theorem dX6_callOfOutlet_30 : decode cX6_callOfOutlet 30 = .ok (.iload_n 2, 1) := by decide +kernel
theorem dX6_callOfOutlet_31 : decode cX6_callOfOutlet 31 = .ok (.iconst 0, 1) := by decide +kernel
theorem dX6_callOfOutlet_32 : decode cX6_callOfOutlet 32 = .ok (.invokevirtual 41, 3) := by decide +kernel
theorem dX6_callOfOutlet_35 : decode cX6_callOfOutlet 35 = .ok (.ireturn, 1) := by decide +kernel
set_option maxRecDepth 20000 in
theorem ggX6_inletOf_X6_lines : GoodIn wsX6_inletOf wsX6_lines := goodIn_r _ [5, 6, 11, 12, 13, 14, 15, 16, 17, 18, 19, 20, 21, 22] (by decide +kernel) (by decide +kernel)
set_option maxRecDepth 20000 in
theorem gX6_inletOf_X6_lines : GoodIn wsX6_inletOf (wsV RX6 30 RX6 yX6_lines wsX6_lines) := goodIn_app (goodIn_of _ (by decide +kernel)) ggX6_inletOf_X6_lines
set_option maxRecDepth 20000 in
theorem ggX6_inletOf_X6_of : GoodIn wsX6_inletOf wsX6_of := goodIn_r _ [10, 6, 11, 12, 13, 14, 15, 16, 17, 18, 19, 20, 21, 22] (by decide +kernel) (by decide +kernel)
set_option maxRecDepth 20000 in
theorem gX6_inletOf_X6_of : GoodIn wsX6_inletOf (wsV RX6 41 RX6 yX6_of wsX6_of) := goodIn_app (goodIn_of _ (by decide +kernel)) ggX6_inletOf_X6_of
theorem dX6_inletOf_0 : decode cX6_inletOf 0 = .ok (.iconst 0, 1) := by decide +kernel
theorem dX6_inletOf_1 : decode cX6_inletOf 1 = .ok (.istore_n 2, 1) := by decide +kernel
theorem dX6_inletOf_2 : decode cX6_inletOf 2 = .ok (.iload_n 2, 1) := by decide +kernel
theorem dX6_inletOf_3 : decode cX6_inletOf 3 = .ok (.aload_n 0, 1) := by decide +kernel
theorem dX6_inletOf_4 : decode cX6_inletOf 4 = .ok (.iconst 0, 1) := by decide +kernel
theorem dX6_inletOf_5 : decode cX6_inletOf 5 = .ok (.invokevirtual 30, 3) := by decide +kernel
theorem dX6_inletOf_8 : decode cX6_inletOf 8 = .ok (.if_icmp .ge 26, 3) := by decide +kernel
theorem dX6_inletOf_11 : decode cX6_inletOf 11 = .ok (.iload_n 1, 1) := by decide +kernel
theorem dX6_inletOf_12 : decode cX6_inletOf 12 = .ok (.ifCond .lt 16, 3) := by decide +kernel
theorem dX6_inletOf_15 : decode cX6_inletOf 15 = .ok (.aload_n 0, 1) := by decide +kernel
theorem dX6_inletOf_16 : decode cX6_inletOf 16 = .ok (.iconst 0, 1) := by decide +kernel
theorem dX6_inletOf_17 : decode cX6_inletOf 17 = .ok (.iload_n 2, 1) := by decide +kernel
theorem dX6_inletOf_18 : decode cX6_inletOf 18 = .ok (.iconst 0, 1) := by decide +kernel
theorem dX6_inletOf_19 : decode cX6_inletOf 19 = .ok (.invokevirtual 41, 3) := by decide +kernel
theorem dX6_inletOf_22 : decode cX6_inletOf 22 = .ok (.iload_n 1, 1) := by decide +kernel
theorem dX6_inletOf_23 : decode cX6_inletOf 23 = .ok (.if_icmp .ne 5, 3) := by decide +kernel
theorem dX6_inletOf_26 : decode cX6_inletOf 26 = .ok (.iload_n 2, 1) := by decide +kernel
theorem dX6_inletOf_27 : decode cX6_inletOf 27 = .ok (.ireturn, 1) := by decide +kernel
theorem dX6_inletOf_28 : decode cX6_inletOf 28 = .ok (.iinc 2 1, 3) := by decide +kernel
theorem dX6_inletOf_31 : decode cX6_inletOf 31 = .ok (.goto (-29), 3) := by decide +kernel
theorem dX6_inletOf_34 : decode cX6_inletOf 34 = .ok (.iconst (-1), 1) := by decide +kernel
theorem dX6_inletOf_35 : decode cX6_inletOf 35 = .ok (.ireturn, 1) := by decide +kernel
set_option maxRecDepth 20000 in
theorem ggX6_outletOf_X6_inletOf : GoodIn wsX6_outletOf wsX6_inletOf := goodIn_r _ [5, 6, 7, 8, 4, 9, 10, 11, 12, 13, 14, 15, 16, 17, 18, 19, 20, 21, 22, 23, 24, 25, 26] (by decide +kernel) (by decide +kernel)
set_option maxRecDepth 20000 in
theorem gX6_outletOf_X6_inletOf : GoodIn wsX6_outletOf (wsV RX6 173 RX6 yX6_inletOf wsX6_inletOf) := goodIn_app (goodIn_of _ (by decide +kernel)) ggX6_outletOf_X6_inletOf
set_option maxRecDepth 20000 in
theorem ggX6_outletOf_X6_of : GoodIn wsX6_outletOf wsX6_of := goodIn_r _ [14, 10, 15, 16, 17, 18, 19, 20, 21, 22, 23, 24, 25, 26] (by decide +kernel) (by decide +kernel)
set_option maxRecDepth 20000 in
theorem gX6_outletOf_X6_of : GoodIn wsX6_outletOf (wsV RX6 41 RX6 yX6_of wsX6_of) := goodIn_app (goodIn_of _ (by decide +kernel)) ggX6_outletOf_X6_of
theorem dX6_outletOf_0 : decode cX6_outletOf 0 = .ok (.aload_n 0, 1) := by decide +kernel
theorem dX6_outletOf_1 : decode cX6_outletOf 1 = .ok (.iload_n 1, 1) := by decide +kernel
theorem dX6_outletOf_2 : decode cX6_outletOf 2 = .ok (.invokevirtual 173, 3) := by decide +kernel
theorem dX6_outletOf_5 : decode cX6_outletOf 5 = .ok (.istore_n 2, 1) := by decide +kernel
theorem dX6_outletOf_6 : decode cX6_outletOf 6 = .ok (.iload_n 2, 1) := by decide +kernel
theorem dX6_outletOf_7 : decode cX6_outletOf 7 = .ok (.iconst (-1), 1) := by decide +kernel
theorem dX6_outletOf_8 : decode cX6_outletOf 8 = .ok (.if_icmp .ne 7, 3) := by decide +kernel
theorem dX6_outletOf_11 : decode cX6_outletOf 11 = .ok (.iconst (-1), 1) := by decide +kernel
theorem dX6_outletOf_12 : decode cX6_outletOf 12 = .ok (.goto 10, 3) := by decide +kernel
theorem dX6_outletOf_15 : decode cX6_outletOf 15 = .ok (.aload_n 0, 1) := by decide +kernel
theorem dX6_outletOf_16 : decode cX6_outletOf 16 = .ok (.iconst 0, 1) := by decide +kernel
theorem dX6_outletOf_17 : decode cX6_outletOf 17 = .ok (.iload_n 2, 1) := by decide +kernel
theorem dX6_outletOf_18 : decode cX6_outletOf 18 = .ok (.iconst 1, 1) := by decide +kernel
theorem dX6_outletOf_19 : decode cX6_outletOf 19 = .ok (.invokevirtual 41, 3) := by decide +kernel
theorem dX6_outletOf_22 : decode cX6_outletOf 22 = .ok (.ireturn, 1) := by decide +kernel
set_option maxRecDepth 20000 in
theorem ggX6_middleOf_X6_inletOf : GoodIn wsX6_middleOf wsX6_inletOf := goodIn_r _ [5, 6, 7, 8, 4, 9, 10, 11, 12, 13, 14, 15, 16, 17, 18, 19, 20, 21, 22, 23, 24, 25, 26] (by decide +kernel) (by decide +kernel)
set_option maxRecDepth 20000 in
theorem gX6_middleOf_X6_inletOf : GoodIn wsX6_middleOf (wsV RX6 173 RX6 yX6_inletOf wsX6_inletOf) := goodIn_app (goodIn_of _ (by decide +kernel)) ggX6_middleOf_X6_inletOf
set_option maxRecDepth 20000 in
theorem ggX6_middleOf_X6_of : GoodIn wsX6_middleOf wsX6_of := goodIn_r _ [14, 10, 15, 16, 17, 18, 19, 20, 21, 22, 23, 24, 25, 26] (by decide +kernel) (by decide +kernel)
set_option maxRecDepth 20000 in
theorem gX6_middleOf_X6_of : GoodIn wsX6_middleOf (wsV RX6 41 RX6 yX6_of wsX6_of) := goodIn_app (goodIn_of _ (by decide +kernel)) ggX6_middleOf_X6_of
theorem dX6_middleOf_0 : decode cX6_middleOf 0 = .ok (.aload_n 0, 1) := by decide +kernel
theorem dX6_middleOf_1 : decode cX6_middleOf 1 = .ok (.iload_n 1, 1) := by decide +kernel
theorem dX6_middleOf_2 : decode cX6_middleOf 2 = .ok (.invokevirtual 173, 3) := by decide +kernel
theorem dX6_middleOf_5 : decode cX6_middleOf 5 = .ok (.istore_n 2, 1) := by decide +kernel
theorem dX6_middleOf_6 : decode cX6_middleOf 6 = .ok (.iload_n 2, 1) := by decide +kernel
theorem dX6_middleOf_7 : decode cX6_middleOf 7 = .ok (.iconst (-1), 1) := by decide +kernel
theorem dX6_middleOf_8 : decode cX6_middleOf 8 = .ok (.if_icmp .ne 7, 3) := by decide +kernel
theorem dX6_middleOf_11 : decode cX6_middleOf 11 = .ok (.iconst (-1), 1) := by decide +kernel
theorem dX6_middleOf_12 : decode cX6_middleOf 12 = .ok (.goto 10, 3) := by decide +kernel
theorem dX6_middleOf_15 : decode cX6_middleOf 15 = .ok (.aload_n 0, 1) := by decide +kernel
theorem dX6_middleOf_16 : decode cX6_middleOf 16 = .ok (.iconst 0, 1) := by decide +kernel
theorem dX6_middleOf_17 : decode cX6_middleOf 17 = .ok (.iload_n 2, 1) := by decide +kernel
theorem dX6_middleOf_18 : decode cX6_middleOf 18 = .ok (.iconst 2, 1) := by decide +kernel
theorem dX6_middleOf_19 : decode cX6_middleOf 19 = .ok (.invokevirtual 41, 3) := by decide +kernel
theorem dX6_middleOf_22 : decode cX6_middleOf 22 = .ok (.ireturn, 1) := by decide +kernel
set_option maxRecDepth 20000 in
theorem ggX6_onFirstLink_X6_isBoard : GoodIn wsX6_onFirstLink wsX6_isBoard := goodIn_r _ [5, 6, 7, 8, 4, 9, 26, 27, 28, 29, 30, 31, 32, 33, 34, 35, 36, 37] (by decide +kernel) (by decide +kernel)
set_option maxRecDepth 20000 in
theorem gX6_onFirstLink_X6_isBoard : GoodIn wsX6_onFirstLink (wsV RX6 176 RX6 yX6_isBoard wsX6_isBoard) := goodIn_app (goodIn_of _ (by decide +kernel)) ggX6_onFirstLink_X6_isBoard
set_option maxRecDepth 20000 in
theorem ggX6_onFirstLink_X6_isMiddle : GoodIn wsX6_onFirstLink wsX6_isMiddle := goodIn_r _ [13, 6, 7, 8, 4, 9, 26, 27, 28, 29, 30, 31, 32, 33, 34, 35, 36, 37] (by decide +kernel) (by decide +kernel)
set_option maxRecDepth 20000 in
theorem gX6_onFirstLink_X6_isMiddle : GoodIn wsX6_onFirstLink (wsV RX6 87 RX6 yX6_isMiddle wsX6_isMiddle) := goodIn_app (goodIn_of _ (by decide +kernel)) ggX6_onFirstLink_X6_isMiddle
set_option maxRecDepth 20000 in
theorem ggX6_onFirstLink_X6_onFirst : GoodIn wsX6_onFirstLink wsX6_onFirst := goodIn_r _ [17, 6, 18, 19, 20, 4, 21, 22, 23, 24, 25, 26, 27, 28, 29, 30, 31, 32, 33, 34, 35, 36, 37] (by decide +kernel) (by decide +kernel)
set_option maxRecDepth 20000 in
theorem gX6_onFirstLink_X6_onFirst : GoodIn wsX6_onFirstLink (wsV RX6 45 RX6 yX6_onFirst wsX6_onFirst) := goodIn_app (goodIn_of _ (by decide +kernel)) ggX6_onFirstLink_X6_onFirst
set_option maxRecDepth 20000 in
theorem ggX6_onFirstLink_X6_of : GoodIn wsX6_onFirstLink wsX6_of := goodIn_r _ [25, 6, 26, 27, 28, 29, 30, 31, 32, 33, 34, 35, 36, 37] (by decide +kernel) (by decide +kernel)
set_option maxRecDepth 20000 in
theorem gX6_onFirstLink_X6_of : GoodIn wsX6_onFirstLink (wsV RX6 41 RX6 yX6_of wsX6_of) := goodIn_app (goodIn_of _ (by decide +kernel)) ggX6_onFirstLink_X6_of
theorem dX6_onFirstLink_0 : decode cX6_onFirstLink 0 = .ok (.aload_n 0, 1) := by decide +kernel
theorem dX6_onFirstLink_1 : decode cX6_onFirstLink 1 = .ok (.iload_n 1, 1) := by decide +kernel
theorem dX6_onFirstLink_2 : decode cX6_onFirstLink 2 = .ok (.invokevirtual 176, 3) := by decide +kernel
theorem dX6_onFirstLink_5 : decode cX6_onFirstLink 5 = .ok (.ifCond .eq 12, 3) := by decide +kernel
theorem dX6_onFirstLink_8 : decode cX6_onFirstLink 8 = .ok (.aload_n 0, 1) := by decide +kernel
theorem dX6_onFirstLink_9 : decode cX6_onFirstLink 9 = .ok (.iconst 0, 1) := by decide +kernel
theorem dX6_onFirstLink_10 : decode cX6_onFirstLink 10 = .ok (.iload_n 2, 1) := by decide +kernel
theorem dX6_onFirstLink_11 : decode cX6_onFirstLink 11 = .ok (.invokevirtual 87, 3) := by decide +kernel
theorem dX6_onFirstLink_14 : decode cX6_onFirstLink 14 = .ok (.ifCond .ne 5, 3) := by decide +kernel
theorem dX6_onFirstLink_17 : decode cX6_onFirstLink 17 = .ok (.iconst (-1), 1) := by decide +kernel
theorem dX6_onFirstLink_18 : decode cX6_onFirstLink 18 = .ok (.ireturn, 1) := by decide +kernel
theorem dX6_onFirstLink_19 : decode cX6_onFirstLink 19 = .ok (.aload_n 0, 1) := by decide +kernel
theorem dX6_onFirstLink_20 : decode cX6_onFirstLink 20 = .ok (.iconst 0, 1) := by decide +kernel
theorem dX6_onFirstLink_21 : decode cX6_onFirstLink 21 = .ok (.iload_n 1, 1) := by decide +kernel
theorem dX6_onFirstLink_22 : decode cX6_onFirstLink 22 = .ok (.iload_n 2, 1) := by decide +kernel
theorem dX6_onFirstLink_23 : decode cX6_onFirstLink 23 = .ok (.invokevirtual 45, 3) := by decide +kernel
theorem dX6_onFirstLink_26 : decode cX6_onFirstLink 26 = .ok (.istore_n 3, 1) := by decide +kernel
theorem dX6_onFirstLink_27 : decode cX6_onFirstLink 27 = .ok (.iload_n 3, 1) := by decide +kernel
theorem dX6_onFirstLink_28 : decode cX6_onFirstLink 28 = .ok (.iconst (-1), 1) := by decide +kernel
theorem dX6_onFirstLink_29 : decode cX6_onFirstLink 29 = .ok (.if_icmp .ne 8, 3) := by decide +kernel
theorem dX6_onFirstLink_32 : decode cX6_onFirstLink 32 = .ok (.bipush (-6), 2) := by decide +kernel
theorem dX6_onFirstLink_34 : decode cX6_onFirstLink 34 = .ok (.goto 10, 3) := by decide +kernel
theorem dX6_onFirstLink_37 : decode cX6_onFirstLink 37 = .ok (.aload_n 0, 1) := by decide +kernel
theorem dX6_onFirstLink_38 : decode cX6_onFirstLink 38 = .ok (.iconst 0, 1) := by decide +kernel
theorem dX6_onFirstLink_39 : decode cX6_onFirstLink 39 = .ok (.iload_n 3, 1) := by decide +kernel
theorem dX6_onFirstLink_40 : decode cX6_onFirstLink 40 = .ok (.iconst 0, 1) := by decide +kernel
theorem dX6_onFirstLink_41 : decode cX6_onFirstLink 41 = .ok (.invokevirtual 41, 3) := by decide +kernel
theorem dX6_onFirstLink_44 : decode cX6_onFirstLink 44 = .ok (.ireturn, 1) := by decide +kernel
set_option maxRecDepth 20000 in
theorem ggX6_onLastLink_X6_isBoard : GoodIn wsX6_onLastLink wsX6_isBoard := goodIn_r _ [5, 6, 7, 8, 4, 9, 26, 27, 28, 29, 30, 31, 32, 33, 34, 35, 36, 37] (by decide +kernel) (by decide +kernel)
set_option maxRecDepth 20000 in
theorem gX6_onLastLink_X6_isBoard : GoodIn wsX6_onLastLink (wsV RX6 176 RX6 yX6_isBoard wsX6_isBoard) := goodIn_app (goodIn_of _ (by decide +kernel)) ggX6_onLastLink_X6_isBoard
set_option maxRecDepth 20000 in
theorem ggX6_onLastLink_X6_isMiddle : GoodIn wsX6_onLastLink wsX6_isMiddle := goodIn_r _ [13, 6, 7, 8, 4, 9, 26, 27, 28, 29, 30, 31, 32, 33, 34, 35, 36, 37] (by decide +kernel) (by decide +kernel)
set_option maxRecDepth 20000 in
theorem gX6_onLastLink_X6_isMiddle : GoodIn wsX6_onLastLink (wsV RX6 87 RX6 yX6_isMiddle wsX6_isMiddle) := goodIn_app (goodIn_of _ (by decide +kernel)) ggX6_onLastLink_X6_isMiddle
set_option maxRecDepth 20000 in
theorem ggX6_onLastLink_X6_onLast : GoodIn wsX6_onLastLink wsX6_onLast := goodIn_r _ [17, 6, 18, 19, 20, 4, 21, 22, 23, 24, 25, 26, 27, 28, 29, 30, 31, 32, 33, 34, 35, 36, 37] (by decide +kernel) (by decide +kernel)
set_option maxRecDepth 20000 in
theorem gX6_onLastLink_X6_onLast : GoodIn wsX6_onLastLink (wsV RX6 48 RX6 yX6_onLast wsX6_onLast) := goodIn_app (goodIn_of _ (by decide +kernel)) ggX6_onLastLink_X6_onLast
set_option maxRecDepth 20000 in
theorem ggX6_onLastLink_X6_of : GoodIn wsX6_onLastLink wsX6_of := goodIn_r _ [25, 6, 26, 27, 28, 29, 30, 31, 32, 33, 34, 35, 36, 37] (by decide +kernel) (by decide +kernel)
set_option maxRecDepth 20000 in
theorem gX6_onLastLink_X6_of : GoodIn wsX6_onLastLink (wsV RX6 41 RX6 yX6_of wsX6_of) := goodIn_app (goodIn_of _ (by decide +kernel)) ggX6_onLastLink_X6_of
theorem dX6_onLastLink_0 : decode cX6_onLastLink 0 = .ok (.aload_n 0, 1) := by decide +kernel
theorem dX6_onLastLink_1 : decode cX6_onLastLink 1 = .ok (.iload_n 2, 1) := by decide +kernel
theorem dX6_onLastLink_2 : decode cX6_onLastLink 2 = .ok (.invokevirtual 176, 3) := by decide +kernel
theorem dX6_onLastLink_5 : decode cX6_onLastLink 5 = .ok (.ifCond .eq 12, 3) := by decide +kernel
theorem dX6_onLastLink_8 : decode cX6_onLastLink 8 = .ok (.aload_n 0, 1) := by decide +kernel
theorem dX6_onLastLink_9 : decode cX6_onLastLink 9 = .ok (.iconst 0, 1) := by decide +kernel
theorem dX6_onLastLink_10 : decode cX6_onLastLink 10 = .ok (.iload_n 1, 1) := by decide +kernel
theorem dX6_onLastLink_11 : decode cX6_onLastLink 11 = .ok (.invokevirtual 87, 3) := by decide +kernel
theorem dX6_onLastLink_14 : decode cX6_onLastLink 14 = .ok (.ifCond .ne 5, 3) := by decide +kernel
theorem dX6_onLastLink_17 : decode cX6_onLastLink 17 = .ok (.iconst (-1), 1) := by decide +kernel
theorem dX6_onLastLink_18 : decode cX6_onLastLink 18 = .ok (.ireturn, 1) := by decide +kernel
theorem dX6_onLastLink_19 : decode cX6_onLastLink 19 = .ok (.aload_n 0, 1) := by decide +kernel
theorem dX6_onLastLink_20 : decode cX6_onLastLink 20 = .ok (.iconst 0, 1) := by decide +kernel
theorem dX6_onLastLink_21 : decode cX6_onLastLink 21 = .ok (.iload_n 1, 1) := by decide +kernel
theorem dX6_onLastLink_22 : decode cX6_onLastLink 22 = .ok (.iload_n 2, 1) := by decide +kernel
theorem dX6_onLastLink_23 : decode cX6_onLastLink 23 = .ok (.invokevirtual 48, 3) := by decide +kernel
theorem dX6_onLastLink_26 : decode cX6_onLastLink 26 = .ok (.istore_n 3, 1) := by decide +kernel
theorem dX6_onLastLink_27 : decode cX6_onLastLink 27 = .ok (.iload_n 3, 1) := by decide +kernel
theorem dX6_onLastLink_28 : decode cX6_onLastLink 28 = .ok (.iconst (-1), 1) := by decide +kernel
theorem dX6_onLastLink_29 : decode cX6_onLastLink 29 = .ok (.if_icmp .ne 8, 3) := by decide +kernel
theorem dX6_onLastLink_32 : decode cX6_onLastLink 32 = .ok (.bipush (-6), 2) := by decide +kernel
theorem dX6_onLastLink_34 : decode cX6_onLastLink 34 = .ok (.goto 10, 3) := by decide +kernel
theorem dX6_onLastLink_37 : decode cX6_onLastLink 37 = .ok (.aload_n 0, 1) := by decide +kernel
theorem dX6_onLastLink_38 : decode cX6_onLastLink 38 = .ok (.iconst 0, 1) := by decide +kernel
theorem dX6_onLastLink_39 : decode cX6_onLastLink 39 = .ok (.iload_n 3, 1) := by decide +kernel
theorem dX6_onLastLink_40 : decode cX6_onLastLink 40 = .ok (.iconst 0, 1) := by decide +kernel
theorem dX6_onLastLink_41 : decode cX6_onLastLink 41 = .ok (.invokevirtual 41, 3) := by decide +kernel
theorem dX6_onLastLink_44 : decode cX6_onLastLink 44 = .ok (.ireturn, 1) := by decide +kernel
set_option maxRecDepth 20000 in
theorem ggX6_load_X6_isMiddle : GoodIn wsX6_load wsX6_isMiddle := goodIn_r _ [5, 6, 7, 8, 4, 9, 22, 23, 24, 25, 26, 27, 28, 29, 30, 31, 32, 33] (by decide +kernel) (by decide +kernel)
set_option maxRecDepth 20000 in
theorem gX6_load_X6_isMiddle : GoodIn wsX6_load (wsV RX6 87 RX6 yX6_isMiddle wsX6_isMiddle) := goodIn_app (goodIn_of _ (by decide +kernel)) ggX6_load_X6_isMiddle
set_option maxRecDepth 20000 in
theorem ggX6_load_X6_loadOf : GoodIn wsX6_load wsX6_loadOf := goodIn_r _ [13, 14, 15, 16, 4, 17, 6, 18, 19, 20, 21, 22, 23, 24, 25, 26, 27, 28, 29, 30, 31, 32, 33] (by decide +kernel) (by decide +kernel)
set_option maxRecDepth 20000 in
theorem gX6_load_X6_loadOf : GoodIn wsX6_load (wsV RX6 54 RX6 yX6_loadOf wsX6_loadOf) := goodIn_app (goodIn_of _ (by decide +kernel)) ggX6_load_X6_loadOf
theorem dX6_load_0 : decode cX6_load 0 = .ok (.aload_n 0, 1) := by decide +kernel
theorem dX6_load_1 : decode cX6_load 1 = .ok (.iconst 0, 1) := by decide +kernel
theorem dX6_load_2 : decode cX6_load 2 = .ok (.iload_n 1, 1) := by decide +kernel
theorem dX6_load_3 : decode cX6_load 3 = .ok (.invokevirtual 87, 3) := by decide +kernel
theorem dX6_load_6 : decode cX6_load 6 = .ok (.ifCond .eq 12, 3) := by decide +kernel
theorem dX6_load_9 : decode cX6_load 9 = .ok (.aload_n 0, 1) := by decide +kernel
theorem dX6_load_10 : decode cX6_load 10 = .ok (.iconst 0, 1) := by decide +kernel
theorem dX6_load_11 : decode cX6_load 11 = .ok (.iload_n 1, 1) := by decide +kernel
theorem dX6_load_12 : decode cX6_load 12 = .ok (.invokevirtual 54, 3) := by decide +kernel
theorem dX6_load_15 : decode cX6_load 15 = .ok (.goto 4, 3) := by decide +kernel
theorem dX6_load_18 : decode cX6_load 18 = .ok (.iconst (-1), 1) := by decide +kernel
theorem dX6_load_19 : decode cX6_load 19 = .ok (.ireturn, 1) := by decide +kernel
set_option maxRecDepth 20000 in
theorem ggX6_freeForFirst_X6_isBoard : GoodIn wsX6_freeForFirst wsX6_isBoard := goodIn_r _ [5, 6, 7, 8, 4, 9, 29, 30, 31, 32, 33, 34, 35, 36, 37, 38, 39, 40] (by decide +kernel) (by decide +kernel)
set_option maxRecDepth 20000 in
theorem gX6_freeForFirst_X6_isBoard : GoodIn wsX6_freeForFirst (wsV RX6 176 RX6 yX6_isBoard wsX6_isBoard) := goodIn_app (goodIn_of _ (by decide +kernel)) ggX6_freeForFirst_X6_isBoard
set_option maxRecDepth 20000 in
theorem ggX6_freeForFirst_X6_freeAhead : GoodIn wsX6_freeForFirst wsX6_freeAhead := goodIn_r _ [13, 6, 14, 15, 4, 16, 17, 18, 19, 20, 21, 22, 23, 24, 25, 26, 27, 28, 29, 30, 31, 32, 33, 34, 35, 36, 37, 38, 39, 40] (by decide +kernel) (by decide +kernel)
set_option maxRecDepth 20000 in
theorem gX6_freeForFirst_X6_freeAhead : GoodIn wsX6_freeForFirst (wsV RX6 62 RX6 yX6_freeAhead wsX6_freeAhead) := goodIn_app (goodIn_of _ (by decide +kernel)) ggX6_freeForFirst_X6_freeAhead
theorem dX6_freeForFirst_0 : decode cX6_freeForFirst 0 = .ok (.aload_n 0, 1) := by decide +kernel
theorem dX6_freeForFirst_1 : decode cX6_freeForFirst 1 = .ok (.iload_n 1, 1) := by decide +kernel
theorem dX6_freeForFirst_2 : decode cX6_freeForFirst 2 = .ok (.invokevirtual 176, 3) := by decide +kernel
theorem dX6_freeForFirst_5 : decode cX6_freeForFirst 5 = .ok (.ifCond .eq 12, 3) := by decide +kernel
theorem dX6_freeForFirst_8 : decode cX6_freeForFirst 8 = .ok (.aload_n 0, 1) := by decide +kernel
theorem dX6_freeForFirst_9 : decode cX6_freeForFirst 9 = .ok (.iconst 0, 1) := by decide +kernel
theorem dX6_freeForFirst_10 : decode cX6_freeForFirst 10 = .ok (.iload_n 1, 1) := by decide +kernel
theorem dX6_freeForFirst_11 : decode cX6_freeForFirst 11 = .ok (.invokevirtual 62, 3) := by decide +kernel
theorem dX6_freeForFirst_14 : decode cX6_freeForFirst 14 = .ok (.goto 4, 3) := by decide +kernel
theorem dX6_freeForFirst_17 : decode cX6_freeForFirst 17 = .ok (.iconst (-1), 1) := by decide +kernel
theorem dX6_freeForFirst_18 : decode cX6_freeForFirst 18 = .ok (.ireturn, 1) := by decide +kernel
set_option maxRecDepth 20000 in
theorem ggX6_freeForLast_X6_isBoard : GoodIn wsX6_freeForLast wsX6_isBoard := goodIn_r _ [5, 6, 7, 8, 4, 9, 29, 30, 31, 32, 33, 34, 35, 36, 37, 38, 39, 40] (by decide +kernel) (by decide +kernel)
set_option maxRecDepth 20000 in
theorem gX6_freeForLast_X6_isBoard : GoodIn wsX6_freeForLast (wsV RX6 176 RX6 yX6_isBoard wsX6_isBoard) := goodIn_app (goodIn_of _ (by decide +kernel)) ggX6_freeForLast_X6_isBoard
set_option maxRecDepth 20000 in
theorem ggX6_freeForLast_X6_freeBehind : GoodIn wsX6_freeForLast wsX6_freeBehind := goodIn_r _ [13, 6, 14, 15, 4, 16, 17, 18, 19, 20, 21, 22, 23, 24, 25, 26, 27, 28, 29, 30, 31, 32, 33, 34, 35, 36, 37, 38, 39, 40] (by decide +kernel) (by decide +kernel)
set_option maxRecDepth 20000 in
theorem gX6_freeForLast_X6_freeBehind : GoodIn wsX6_freeForLast (wsV RX6 65 RX6 yX6_freeBehind wsX6_freeBehind) := goodIn_app (goodIn_of _ (by decide +kernel)) ggX6_freeForLast_X6_freeBehind
theorem dX6_freeForLast_0 : decode cX6_freeForLast 0 = .ok (.aload_n 0, 1) := by decide +kernel
theorem dX6_freeForLast_1 : decode cX6_freeForLast 1 = .ok (.iload_n 1, 1) := by decide +kernel
theorem dX6_freeForLast_2 : decode cX6_freeForLast 2 = .ok (.invokevirtual 176, 3) := by decide +kernel
theorem dX6_freeForLast_5 : decode cX6_freeForLast 5 = .ok (.ifCond .eq 12, 3) := by decide +kernel
theorem dX6_freeForLast_8 : decode cX6_freeForLast 8 = .ok (.aload_n 0, 1) := by decide +kernel
theorem dX6_freeForLast_9 : decode cX6_freeForLast 9 = .ok (.iconst 0, 1) := by decide +kernel
theorem dX6_freeForLast_10 : decode cX6_freeForLast 10 = .ok (.iload_n 1, 1) := by decide +kernel
theorem dX6_freeForLast_11 : decode cX6_freeForLast 11 = .ok (.invokevirtual 65, 3) := by decide +kernel
theorem dX6_freeForLast_14 : decode cX6_freeForLast 14 = .ok (.goto 4, 3) := by decide +kernel
theorem dX6_freeForLast_17 : decode cX6_freeForLast 17 = .ok (.iconst (-1), 1) := by decide +kernel
theorem dX6_freeForLast_18 : decode cX6_freeForLast 18 = .ok (.ireturn, 1) := by decide +kernel
theorem dX6_inService_0 : decode cX6_inService 0 = .ok (.aload_n 0, 1) := by decide +kernel
theorem dX6_inService_1 : decode cX6_inService 1 = .ok (.getfield 7, 3) := by decide +kernel
theorem dX6_inService_4 : decode cX6_inService 4 = .ok (.bipush 9, 2) := by decide +kernel
theorem dX6_inService_6 : decode cX6_inService 6 = .ok (.iaload, 1) := by decide +kernel
theorem dX6_inService_7 : decode cX6_inService 7 = .ok (.ireturn, 1) := by decide +kernel
set_option maxRecDepth 20000 in
theorem ggX6_total_X6_calls : GoodIn wsX6_total wsX6_calls := goodIn_r _ [8, 9, 10, 11, 7, 12, 1, 13, 14, 15, 16, 17, 18, 19, 20, 21, 22, 23, 24, 25, 26, 27, 28] (by decide +kernel) (by decide +kernel)
set_option maxRecDepth 20000 in
theorem gX6_total_X6_calls : GoodIn wsX6_total (wsV RX6 96 RX6 yX6_calls wsX6_calls) := goodIn_app (goodIn_of _ (by decide +kernel)) ggX6_total_X6_calls
theorem dX6_total_0 : decode cX6_total 0 = .ok (.iload_n 1, 1) := by decide +kernel
theorem dX6_total_1 : decode cX6_total 1 = .ok (.tableswitch 95 0 11 #[63, 63, 63, 63, 63, 70, 76, 76, 76, 76, 85, 90], 63) := by decide +kernel
theorem dX6_total_64 : decode cX6_total 64 = .ok (.aload_n 0, 1) := by decide +kernel
theorem dX6_total_65 : decode cX6_total 65 = .ok (.getfield 7, 3) := by decide +kernel
theorem dX6_total_68 : decode cX6_total 68 = .ok (.iload_n 1, 1) := by decide +kernel
theorem dX6_total_69 : decode cX6_total 69 = .ok (.iaload, 1) := by decide +kernel
theorem dX6_total_70 : decode cX6_total 70 = .ok (.ireturn, 1) := by decide +kernel
theorem dX6_total_71 : decode cX6_total 71 = .ok (.aload_n 0, 1) := by decide +kernel
theorem dX6_total_72 : decode cX6_total 72 = .ok (.iconst 0, 1) := by decide +kernel
theorem dX6_total_73 : decode cX6_total 73 = .ok (.invokevirtual 96, 3) := by decide +kernel
theorem dX6_total_76 : decode cX6_total 76 = .ok (.ireturn, 1) := by decide +kernel
theorem dX6_total_77 : decode cX6_total 77 = .ok (.aload_n 0, 1) := by decide +kernel
theorem dX6_total_78 : decode cX6_total 78 = .ok (.getfield 7, 3) := by decide +kernel
theorem dX6_total_81 : decode cX6_total 81 = .ok (.iload_n 1, 1) := by decide +kernel
theorem dX6_total_82 : decode cX6_total 82 = .ok (.iconst 1, 1) := by decide +kernel
theorem dX6_total_83 : decode cX6_total 83 = .ok (.isub, 1) := by decide +kernel
theorem dX6_total_84 : decode cX6_total 84 = .ok (.iaload, 1) := by decide +kernel
theorem dX6_total_85 : decode cX6_total 85 = .ok (.ireturn, 1) := by decide +kernel
theorem dX6_total_86 : decode cX6_total 86 = .ok (.aload_n 0, 1) := by decide +kernel
theorem dX6_total_87 : decode cX6_total 87 = .ok (.getfield 102, 3) := by decide +kernel
theorem dX6_total_90 : decode cX6_total 90 = .ok (.ireturn, 1) := by decide +kernel
theorem dX6_total_91 : decode cX6_total 91 = .ok (.aload_n 0, 1) := by decide +kernel
theorem dX6_total_92 : decode cX6_total 92 = .ok (.getfield 130, 3) := by decide +kernel
theorem dX6_total_95 : decode cX6_total 95 = .ok (.ireturn, 1) := by decide +kernel
theorem dX6_total_96 : decode cX6_total 96 = .ok (.bipush (-2), 2) := by decide +kernel
theorem dX6_total_98 : decode cX6_total 98 = .ok (.ireturn, 1) := by decide +kernel
set_option maxRecDepth 20000 in
theorem ggX6_wouldMove_X6_copies : GoodIn wsX6_wouldMove wsX6_copies := goodIn_r _ [6, 7, 78, 79, 80, 81, 82, 83, 84, 85, 86, 87, 88, 89] (by decide +kernel) (by decide +kernel)
set_option maxRecDepth 20000 in
theorem gX6_wouldMove_X6_copies : GoodIn wsX6_wouldMove (wsV RX6 105 RX6 yX6_copies wsX6_copies) := goodIn_app (goodIn_of _ (by decide +kernel)) ggX6_wouldMove_X6_copies
set_option maxRecDepth 20000 in
theorem ggX6_wouldMove_X6_connects : GoodIn wsX6_wouldMove wsX6_connects := goodIn_r _ [11, 7, 12, 13, 14, 5, 15, 16, 17, 18, 19, 20, 21, 22, 23, 24, 25, 26, 27, 28, 29, 30, 31, 32, 33, 34, 35, 36, 37, 38, 1, 39, 40, 41, 42, 43, 44, 45, 46, 47, 48, 49, 50, 51, 52, 53, 54, 55, 56, 57, 58, 59, 60, 61, 62, 63, 64, 65, 66, 67, 68, 69, 70, 71, 72, 73, 74, 75, 76, 77, 78, 79, 80, 81, 82, 83, 84, 85, 86, 87, 88, 89] (by decide +kernel) (by decide +kernel)
set_option maxRecDepth 20000 in
theorem gX6_wouldMove_X6_connects : GoodIn wsX6_wouldMove (wsV RX6 115 RX6 yX6_connects wsX6_connects) := goodIn_app (goodIn_of _ (by decide +kernel)) ggX6_wouldMove_X6_connects
theorem dX6_wouldMove_0 : decode cX6_wouldMove 0 = .ok (.aload_n 0, 1) := by decide +kernel
theorem dX6_wouldMove_1 : decode cX6_wouldMove 1 = .ok (.iconst 0, 1) := by decide +kernel
theorem dX6_wouldMove_2 : decode cX6_wouldMove 2 = .ok (.bipush 6, 2) := by decide +kernel
theorem dX6_wouldMove_4 : decode cX6_wouldMove 4 = .ok (.invokevirtual 105, 3) := by decide +kernel
theorem dX6_wouldMove_7 : decode cX6_wouldMove 7 = .ok (.aload_n 0, 1) := by decide +kernel
theorem dX6_wouldMove_8 : decode cX6_wouldMove 8 = .ok (.sipush 924, 3) := by decide +kernel
theorem dX6_wouldMove_11 : decode cX6_wouldMove 11 = .ok (.iload_n 1, 1) := by decide +kernel
theorem dX6_wouldMove_12 : decode cX6_wouldMove 12 = .ok (.iload_n 2, 1) := by decide +kernel
theorem dX6_wouldMove_13 : decode cX6_wouldMove 13 = .ok (.invokevirtual 115, 3) := by decide +kernel
theorem dX6_wouldMove_16 : decode cX6_wouldMove 16 = .ok (.istore_n 3, 1) := by decide +kernel
theorem dX6_wouldMove_17 : decode cX6_wouldMove 17 = .ok (.iload_n 3, 1) := by decide +kernel
theorem dX6_wouldMove_18 : decode cX6_wouldMove 18 = .ok (.ifCond .ge 7, 3) := by decide +kernel
theorem dX6_wouldMove_21 : decode cX6_wouldMove 21 = .ok (.iload_n 3, 1) := by decide +kernel
theorem dX6_wouldMove_22 : decode cX6_wouldMove 22 = .ok (.goto 7, 3) := by decide +kernel
theorem dX6_wouldMove_25 : decode cX6_wouldMove 25 = .ok (.aload_n 0, 1) := by decide +kernel
theorem dX6_wouldMove_26 : decode cX6_wouldMove 26 = .ok (.getfield 68, 3) := by decide +kernel
theorem dX6_wouldMove_29 : decode cX6_wouldMove 29 = .ok (.ireturn, 1) := by decide +kernel
set_option maxRecDepth 20000 in
theorem ggX6_chainCall_X6_copies : GoodIn wsX6_chainCall wsX6_copies := goodIn_r _ [7, 8, 78, 79, 80, 81, 82, 83, 84, 85, 86, 87, 88, 89] (by decide +kernel) (by decide +kernel)
set_option maxRecDepth 20000 in
theorem gX6_chainCall_X6_copies : GoodIn wsX6_chainCall (wsV RX6 105 RX6 yX6_copies wsX6_copies) := goodIn_app (goodIn_of _ (by decide +kernel)) ggX6_chainCall_X6_copies
set_option maxRecDepth 20000 in
theorem ggX6_chainCall_X6_connects : GoodIn wsX6_chainCall wsX6_connects := goodIn_r _ [12, 8, 13, 14, 15, 6, 16, 17, 18, 19, 20, 21, 22, 23, 24, 25, 26, 27, 28, 29, 30, 31, 32, 33, 34, 35, 36, 37, 38, 39, 1, 2, 40, 41, 42, 43, 44, 45, 46, 47, 48, 49, 50, 51, 52, 53, 54, 55, 56, 57, 58, 59, 60, 61, 62, 63, 64, 65, 66, 67, 68, 69, 70, 71, 72, 73, 74, 75, 76, 77, 78, 79, 80, 81, 82, 83, 84, 85, 86, 87, 88, 89] (by decide +kernel) (by decide +kernel)
set_option maxRecDepth 20000 in
theorem gX6_chainCall_X6_connects : GoodIn wsX6_chainCall (wsV RX6 115 RX6 yX6_connects wsX6_connects) := goodIn_app (goodIn_of _ (by decide +kernel)) ggX6_chainCall_X6_connects
set_option maxRecDepth 20000 in
theorem ggX6_chainCall_X6_of : GoodIn wsX6_chainCall wsX6_of := goodIn_r _ [27, 8, 78, 79, 80, 81, 82, 83, 84, 85, 86, 87, 88, 89] (by decide +kernel) (by decide +kernel)
set_option maxRecDepth 20000 in
theorem gX6_chainCall_X6_of : GoodIn wsX6_chainCall (wsV RX6 41 RX6 yX6_of wsX6_of) := goodIn_app (goodIn_of _ (by decide +kernel)) ggX6_chainCall_X6_of
theorem dX6_chainCall_0 : decode cX6_chainCall 0 = .ok (.aload_n 0, 1) := by decide +kernel
theorem dX6_chainCall_1 : decode cX6_chainCall 1 = .ok (.iconst 0, 1) := by decide +kernel
theorem dX6_chainCall_2 : decode cX6_chainCall 2 = .ok (.bipush 6, 2) := by decide +kernel
theorem dX6_chainCall_4 : decode cX6_chainCall 4 = .ok (.invokevirtual 105, 3) := by decide +kernel
theorem dX6_chainCall_7 : decode cX6_chainCall 7 = .ok (.aload_n 0, 1) := by decide +kernel
theorem dX6_chainCall_8 : decode cX6_chainCall 8 = .ok (.sipush 924, 3) := by decide +kernel
theorem dX6_chainCall_11 : decode cX6_chainCall 11 = .ok (.iload_n 1, 1) := by decide +kernel
theorem dX6_chainCall_12 : decode cX6_chainCall 12 = .ok (.iload_n 2, 1) := by decide +kernel
theorem dX6_chainCall_13 : decode cX6_chainCall 13 = .ok (.invokevirtual 115, 3) := by decide +kernel
theorem dX6_chainCall_16 : decode cX6_chainCall 16 = .ok (.istore 4, 2) := by decide +kernel
theorem dX6_chainCall_18 : decode cX6_chainCall 18 = .ok (.iload 4, 2) := by decide +kernel
theorem dX6_chainCall_20 : decode cX6_chainCall 20 = .ok (.ifCond .ge 6, 3) := by decide +kernel
theorem dX6_chainCall_23 : decode cX6_chainCall 23 = .ok (.iload 4, 2) := by decide +kernel
theorem dX6_chainCall_25 : decode cX6_chainCall 25 = .ok (.ireturn, 1) := by decide +kernel
theorem dX6_chainCall_26 : decode cX6_chainCall 26 = .ok (.iload_n 3, 1) := by decide +kernel
theorem dX6_chainCall_27 : decode cX6_chainCall 27 = .ok (.ifCond .ge 6, 3) := by decide +kernel
theorem dX6_chainCall_30 : decode cX6_chainCall 30 = .ok (.bipush (-2), 2) := by decide +kernel
theorem dX6_chainCall_32 : decode cX6_chainCall 32 = .ok (.ireturn, 1) := by decide +kernel
theorem dX6_chainCall_33 : decode cX6_chainCall 33 = .ok (.iload_n 3, 1) := by decide +kernel
theorem dX6_chainCall_34 : decode cX6_chainCall 34 = .ok (.aload_n 0, 1) := by decide +kernel
theorem dX6_chainCall_35 : decode cX6_chainCall 35 = .ok (.getfield 68, 3) := by decide +kernel
theorem dX6_chainCall_38 : decode cX6_chainCall 38 = .ok (.if_icmp .ge 18, 3) := by decide +kernel
theorem dX6_chainCall_41 : decode cX6_chainCall 41 = .ok (.aload_n 0, 1) := by decide +kernel
theorem dX6_chainCall_42 : decode cX6_chainCall 42 = .ok (.iconst 0, 1) := by decide +kernel
theorem dX6_chainCall_43 : decode cX6_chainCall 43 = .ok (.aload_n 0, 1) := by decide +kernel
theorem dX6_chainCall_44 : decode cX6_chainCall 44 = .ok (.getfield 16, 3) := by decide +kernel
theorem dX6_chainCall_47 : decode cX6_chainCall 47 = .ok (.iload_n 3, 1) := by decide +kernel
theorem dX6_chainCall_48 : decode cX6_chainCall 48 = .ok (.iaload, 1) := by decide +kernel
theorem dX6_chainCall_49 : decode cX6_chainCall 49 = .ok (.iconst 0, 1) := by decide +kernel
theorem dX6_chainCall_50 : decode cX6_chainCall 50 = .ok (.invokevirtual 41, 3) := by decide +kernel
theorem dX6_chainCall_53 : decode cX6_chainCall 53 = .ok (.goto 5, 3) := by decide +kernel
theorem dX6_chainCall_56 : decode cX6_chainCall 56 = .ok (.bipush (-6), 2) := by decide +kernel
theorem dX6_chainCall_58 : decode cX6_chainCall 58 = .ok (.ireturn, 1) := by decide +kernel
set_option maxRecDepth 20000 in
theorem ggX6_reason_X6_isLine : GoodIn wsX6_reason wsX6_isLine := goodIn_r _ [6, 7, 8, 9, 5, 10, 1, 11, 12, 13, 41, 42, 43, 44, 45, 46, 47, 48, 49, 50, 51, 52] (by decide +kernel) (by decide +kernel)
set_option maxRecDepth 20000 in
theorem gX6_reason_X6_isLine : GoodIn wsX6_reason (wsV RX6 78 RX6 yX6_isLine wsX6_isLine) := goodIn_app (goodIn_of _ (by decide +kernel)) ggX6_reason_X6_isLine
set_option maxRecDepth 20000 in
theorem ggX6_reason_X6_of : GoodIn wsX6_reason wsX6_of := goodIn_r _ [17, 1, 41, 42, 43, 44, 45, 46, 47, 48, 49, 50, 51, 52] (by decide +kernel) (by decide +kernel)
set_option maxRecDepth 20000 in
theorem gX6_reason_X6_of : GoodIn wsX6_reason (wsV RX6 41 RX6 yX6_of wsX6_of) := goodIn_app (goodIn_of _ (by decide +kernel)) ggX6_reason_X6_of
set_option maxRecDepth 20000 in
theorem ggX6_reason_X6_inletTo : GoodIn wsX6_reason wsX6_inletTo := goodIn_r _ [21, 7, 8, 9, 5, 10, 1, 14, 15, 16, 17, 41, 42, 43, 44, 45, 46, 47, 48, 49, 50, 51, 52] (by decide +kernel) (by decide +kernel)
set_option maxRecDepth 20000 in
theorem gX6_reason_X6_inletTo : GoodIn wsX6_reason (wsV RX6 81 RX6 yX6_inletTo wsX6_inletTo) := goodIn_app (goodIn_of _ (by decide +kernel)) ggX6_reason_X6_inletTo
set_option maxRecDepth 20000 in
theorem ggX6_reason_X6_freeAhead : GoodIn wsX6_reason wsX6_freeAhead := goodIn_r _ [25, 1, 26, 27, 5, 28, 29, 30, 31, 32, 7, 8, 9, 10, 14, 15, 16, 17, 41, 42, 43, 44, 45, 46, 47, 48, 49, 50, 51, 52] (by decide +kernel) (by decide +kernel)
set_option maxRecDepth 20000 in
theorem gX6_reason_X6_freeAhead : GoodIn wsX6_reason (wsV RX6 62 RX6 yX6_freeAhead wsX6_freeAhead) := goodIn_app (goodIn_of _ (by decide +kernel)) ggX6_reason_X6_freeAhead
set_option maxRecDepth 20000 in
theorem ggX6_reason_X6_freeBehind : GoodIn wsX6_reason wsX6_freeBehind := goodIn_r _ [36, 1, 26, 27, 5, 28, 37, 38, 39, 40, 7, 8, 9, 10, 14, 15, 16, 17, 41, 42, 43, 44, 45, 46, 47, 48, 49, 50, 51, 52] (by decide +kernel) (by decide +kernel)
set_option maxRecDepth 20000 in
theorem gX6_reason_X6_freeBehind : GoodIn wsX6_reason (wsV RX6 65 RX6 yX6_freeBehind wsX6_freeBehind) := goodIn_app (goodIn_of _ (by decide +kernel)) ggX6_reason_X6_freeBehind
theorem dX6_reason_0 : decode cX6_reason 0 = .ok (.aload_n 0, 1) := by decide +kernel
theorem dX6_reason_1 : decode cX6_reason 1 = .ok (.iconst 0, 1) := by decide +kernel
theorem dX6_reason_2 : decode cX6_reason 2 = .ok (.iload_n 1, 1) := by decide +kernel
theorem dX6_reason_3 : decode cX6_reason 3 = .ok (.invokevirtual 78, 3) := by decide +kernel
theorem dX6_reason_6 : decode cX6_reason 6 = .ok (.ifCond .eq 12, 3) := by decide +kernel
theorem dX6_reason_9 : decode cX6_reason 9 = .ok (.aload_n 0, 1) := by decide +kernel
theorem dX6_reason_10 : decode cX6_reason 10 = .ok (.iconst 0, 1) := by decide +kernel
theorem dX6_reason_11 : decode cX6_reason 11 = .ok (.iload_n 2, 1) := by decide +kernel
theorem dX6_reason_12 : decode cX6_reason 12 = .ok (.invokevirtual 78, 3) := by decide +kernel
theorem dX6_reason_15 : decode cX6_reason 15 = .ok (.ifCond .ne 5, 3) := by decide +kernel
theorem dX6_reason_18 : decode cX6_reason 18 = .ok (.iconst (-1), 1) := by decide +kernel
theorem dX6_reason_19 : decode cX6_reason 19 = .ok (.ireturn, 1) := by decide +kernel
theorem dX6_reason_20 : decode cX6_reason 20 = .ok (.aload_n 0, 1) := by decide +kernel
theorem dX6_reason_21 : decode cX6_reason 21 = .ok (.iconst 0, 1) := by decide +kernel
theorem dX6_reason_22 : decode cX6_reason 22 = .ok (.iload_n 1, 1) := by decide +kernel
theorem dX6_reason_23 : decode cX6_reason 23 = .ok (.iconst 0, 1) := by decide +kernel
theorem dX6_reason_24 : decode cX6_reason 24 = .ok (.invokevirtual 41, 3) := by decide +kernel
theorem dX6_reason_27 : decode cX6_reason 27 = .ok (.iconst (-1), 1) := by decide +kernel
theorem dX6_reason_28 : decode cX6_reason 28 = .ok (.if_icmp .eq 5, 3) := by decide +kernel
theorem dX6_reason_31 : decode cX6_reason 31 = .ok (.iconst 2, 1) := by decide +kernel
theorem dX6_reason_32 : decode cX6_reason 32 = .ok (.ireturn, 1) := by decide +kernel
theorem dX6_reason_33 : decode cX6_reason 33 = .ok (.aload_n 0, 1) := by decide +kernel
theorem dX6_reason_34 : decode cX6_reason 34 = .ok (.iconst 0, 1) := by decide +kernel
theorem dX6_reason_35 : decode cX6_reason 35 = .ok (.iload_n 2, 1) := by decide +kernel
theorem dX6_reason_36 : decode cX6_reason 36 = .ok (.invokevirtual 81, 3) := by decide +kernel
theorem dX6_reason_39 : decode cX6_reason 39 = .ok (.iconst (-1), 1) := by decide +kernel
theorem dX6_reason_40 : decode cX6_reason 40 = .ok (.if_icmp .eq 5, 3) := by decide +kernel
theorem dX6_reason_43 : decode cX6_reason 43 = .ok (.iconst 3, 1) := by decide +kernel
theorem dX6_reason_44 : decode cX6_reason 44 = .ok (.ireturn, 1) := by decide +kernel
theorem dX6_reason_45 : decode cX6_reason 45 = .ok (.aload_n 0, 1) := by decide +kernel
theorem dX6_reason_46 : decode cX6_reason 46 = .ok (.iconst 0, 1) := by decide +kernel
theorem dX6_reason_47 : decode cX6_reason 47 = .ok (.iload_n 1, 1) := by decide +kernel
theorem dX6_reason_48 : decode cX6_reason 48 = .ok (.aload_n 0, 1) := by decide +kernel
theorem dX6_reason_49 : decode cX6_reason 49 = .ok (.getfield 7, 3) := by decide +kernel
theorem dX6_reason_52 : decode cX6_reason 52 = .ok (.iconst 1, 1) := by decide +kernel
theorem dX6_reason_53 : decode cX6_reason 53 = .ok (.iaload, 1) := by decide +kernel
theorem dX6_reason_54 : decode cX6_reason 54 = .ok (.idiv, 1) := by decide +kernel
theorem dX6_reason_55 : decode cX6_reason 55 = .ok (.invokevirtual 62, 3) := by decide +kernel
theorem dX6_reason_58 : decode cX6_reason 58 = .ok (.istore_n 3, 1) := by decide +kernel
theorem dX6_reason_59 : decode cX6_reason 59 = .ok (.aload_n 0, 1) := by decide +kernel
theorem dX6_reason_60 : decode cX6_reason 60 = .ok (.iconst 0, 1) := by decide +kernel
theorem dX6_reason_61 : decode cX6_reason 61 = .ok (.iload_n 2, 1) := by decide +kernel
theorem dX6_reason_62 : decode cX6_reason 62 = .ok (.aload_n 0, 1) := by decide +kernel
theorem dX6_reason_63 : decode cX6_reason 63 = .ok (.getfield 7, 3) := by decide +kernel
theorem dX6_reason_66 : decode cX6_reason 66 = .ok (.iconst 1, 1) := by decide +kernel
theorem dX6_reason_67 : decode cX6_reason 67 = .ok (.iaload, 1) := by decide +kernel
theorem dX6_reason_68 : decode cX6_reason 68 = .ok (.idiv, 1) := by decide +kernel
theorem dX6_reason_69 : decode cX6_reason 69 = .ok (.invokevirtual 65, 3) := by decide +kernel
theorem dX6_reason_72 : decode cX6_reason 72 = .ok (.istore 4, 2) := by decide +kernel
theorem dX6_reason_74 : decode cX6_reason 74 = .ok (.iload_n 3, 1) := by decide +kernel
theorem dX6_reason_75 : decode cX6_reason 75 = .ok (.ifCond .ne 7, 3) := by decide +kernel
theorem dX6_reason_78 : decode cX6_reason 78 = .ok (.iconst 4, 1) := by decide +kernel
theorem dX6_reason_79 : decode cX6_reason 79 = .ok (.goto 24, 3) := by decide +kernel
theorem dX6_reason_82 : decode cX6_reason 82 = .ok (.iload 4, 2) := by decide +kernel
theorem dX6_reason_84 : decode cX6_reason 84 = .ok (.ifCond .ne 7, 3) := by decide +kernel
theorem dX6_reason_87 : decode cX6_reason 87 = .ok (.iconst 5, 1) := by decide +kernel
theorem dX6_reason_88 : decode cX6_reason 88 = .ok (.goto 15, 3) := by decide +kernel
theorem dX6_reason_91 : decode cX6_reason 91 = .ok (.iload_n 3, 1) := by decide +kernel
theorem dX6_reason_92 : decode cX6_reason 92 = .ok (.iload 4, 2) := by decide +kernel
theorem dX6_reason_94 : decode cX6_reason 94 = .ok (.iand, 1) := by decide +kernel
theorem dX6_reason_95 : decode cX6_reason 95 = .ok (.ifCond .eq 7, 3) := by decide +kernel
theorem dX6_reason_98 : decode cX6_reason 98 = .ok (.iconst 0, 1) := by decide +kernel
theorem dX6_reason_99 : decode cX6_reason 99 = .ok (.goto 4, 3) := by decide +kernel
theorem dX6_reason_102 : decode cX6_reason 102 = .ok (.iconst 1, 1) := by decide +kernel
theorem dX6_reason_103 : decode cX6_reason 103 = .ok (.ireturn, 1) := by decide +kernel
set_option maxRecDepth 20000 in
theorem ggX6_leastMiddles_X6_least : GoodIn wsX6_leastMiddles wsX6_least := goodIn_r _ [5, 6, 7, 8, 9, 4, 10, 11, 12, 13, 14, 15, 16, 17, 18, 19, 20, 21, 22, 23, 24, 25, 26] (by decide +kernel) (by decide +kernel)
set_option maxRecDepth 20000 in
theorem gX6_leastMiddles_X6_least : GoodIn wsX6_leastMiddles (wsV RX6 99 RX6 yX6_least wsX6_least) := goodIn_app (goodIn_of _ (by decide +kernel)) ggX6_leastMiddles_X6_least
theorem dX6_leastMiddles_0 : decode cX6_leastMiddles 0 = .ok (.aload_n 0, 1) := by decide +kernel
theorem dX6_leastMiddles_1 : decode cX6_leastMiddles 1 = .ok (.iconst 0, 1) := by decide +kernel
theorem dX6_leastMiddles_2 : decode cX6_leastMiddles 2 = .ok (.invokevirtual 99, 3) := by decide +kernel
theorem dX6_leastMiddles_5 : decode cX6_leastMiddles 5 = .ok (.ireturn, 1) := by decide +kernel
set_option maxRecDepth 20000 in
theorem ggX6_wouldDrop_X6_copies : GoodIn wsX6_wouldDrop wsX6_copies := goodIn_r _ [5, 6, 78, 79, 80, 81, 82, 83, 84, 85, 86, 87, 88, 89] (by decide +kernel) (by decide +kernel)
set_option maxRecDepth 20000 in
theorem gX6_wouldDrop_X6_copies : GoodIn wsX6_wouldDrop (wsV RX6 105 RX6 yX6_copies wsX6_copies) := goodIn_app (goodIn_of _ (by decide +kernel)) ggX6_wouldDrop_X6_copies
set_option maxRecDepth 20000 in
theorem ggX6_wouldDrop_X6_takesOut : GoodIn wsX6_wouldDrop wsX6_takesOut := goodIn_r _ [10, 6, 11, 12, 13, 4, 14, 15, 16, 17, 18, 19, 20, 21, 22, 23, 24, 25, 26, 27, 28, 29, 30, 31, 32, 33, 34, 35, 36, 37, 38, 39, 40, 41, 42, 43, 44, 45, 46, 47, 48, 49, 50, 51, 52, 53, 54, 55, 56, 57, 58, 59, 60, 61, 62, 63, 64, 65, 66, 67, 68, 69, 70, 71, 72, 73, 74, 75, 76, 77, 78, 79, 80, 81, 82, 83, 84, 85, 86, 87, 88, 89] (by decide +kernel) (by decide +kernel)
set_option maxRecDepth 20000 in
theorem gX6_wouldDrop_X6_takesOut : GoodIn wsX6_wouldDrop (wsV RX6 121 RX6 yX6_takesOut wsX6_takesOut) := goodIn_app (goodIn_of _ (by decide +kernel)) ggX6_wouldDrop_X6_takesOut
theorem dX6_wouldDrop_0 : decode cX6_wouldDrop 0 = .ok (.aload_n 0, 1) := by decide +kernel
theorem dX6_wouldDrop_1 : decode cX6_wouldDrop 1 = .ok (.iconst 0, 1) := by decide +kernel
theorem dX6_wouldDrop_2 : decode cX6_wouldDrop 2 = .ok (.bipush 6, 2) := by decide +kernel
theorem dX6_wouldDrop_4 : decode cX6_wouldDrop 4 = .ok (.invokevirtual 105, 3) := by decide +kernel
theorem dX6_wouldDrop_7 : decode cX6_wouldDrop 7 = .ok (.aload_n 0, 1) := by decide +kernel
theorem dX6_wouldDrop_8 : decode cX6_wouldDrop 8 = .ok (.sipush 924, 3) := by decide +kernel
theorem dX6_wouldDrop_11 : decode cX6_wouldDrop 11 = .ok (.iload_n 1, 1) := by decide +kernel
theorem dX6_wouldDrop_12 : decode cX6_wouldDrop 12 = .ok (.invokevirtual 121, 3) := by decide +kernel
theorem dX6_wouldDrop_15 : decode cX6_wouldDrop 15 = .ok (.ireturn, 1) := by decide +kernel
set_option maxRecDepth 20000 in
theorem ggX6_reachable_X6_isLine : GoodIn wsX6_reachable wsX6_isLine := goodIn_r _ [6, 7, 8, 9, 5, 10, 1, 11, 12, 13, 41, 42, 43, 44, 45, 46, 47, 48, 49, 50, 51, 52] (by decide +kernel) (by decide +kernel)
set_option maxRecDepth 20000 in
theorem gX6_reachable_X6_isLine : GoodIn wsX6_reachable (wsV RX6 78 RX6 yX6_isLine wsX6_isLine) := goodIn_app (goodIn_of _ (by decide +kernel)) ggX6_reachable_X6_isLine
set_option maxRecDepth 20000 in
theorem ggX6_reachable_X6_of : GoodIn wsX6_reachable wsX6_of := goodIn_r _ [17, 1, 41, 42, 43, 44, 45, 46, 47, 48, 49, 50, 51, 52] (by decide +kernel) (by decide +kernel)
set_option maxRecDepth 20000 in
theorem gX6_reachable_X6_of : GoodIn wsX6_reachable (wsV RX6 41 RX6 yX6_of wsX6_of) := goodIn_app (goodIn_of _ (by decide +kernel)) ggX6_reachable_X6_of
set_option maxRecDepth 20000 in
theorem ggX6_reachable_X6_freeAhead : GoodIn wsX6_reachable wsX6_freeAhead := goodIn_r _ [21, 1, 22, 23, 5, 24, 25, 26, 27, 28, 7, 8, 9, 10, 14, 15, 16, 17, 41, 42, 43, 44, 45, 46, 47, 48, 49, 50, 51, 52] (by decide +kernel) (by decide +kernel)
set_option maxRecDepth 20000 in
theorem gX6_reachable_X6_freeAhead : GoodIn wsX6_reachable (wsV RX6 62 RX6 yX6_freeAhead wsX6_freeAhead) := goodIn_app (goodIn_of _ (by decide +kernel)) ggX6_reachable_X6_freeAhead
set_option maxRecDepth 20000 in
theorem ggX6_reachable_X6_lines : GoodIn wsX6_reachable wsX6_lines := goodIn_r _ [10, 1, 41, 42, 43, 44, 45, 46, 47, 48, 49, 50, 51, 52] (by decide +kernel) (by decide +kernel)
set_option maxRecDepth 20000 in
theorem gX6_reachable_X6_lines : GoodIn wsX6_reachable (wsV RX6 30 RX6 yX6_lines wsX6_lines) := goodIn_app (goodIn_of _ (by decide +kernel)) ggX6_reachable_X6_lines
set_option maxRecDepth 20000 in
theorem ggX6_reachable_X6_inletTo : GoodIn wsX6_reachable wsX6_inletTo := goodIn_r _ [32, 7, 8, 9, 5, 10, 1, 14, 15, 16, 17, 41, 42, 43, 44, 45, 46, 47, 48, 49, 50, 51, 52] (by decide +kernel) (by decide +kernel)
set_option maxRecDepth 20000 in
theorem gX6_reachable_X6_inletTo : GoodIn wsX6_reachable (wsV RX6 81 RX6 yX6_inletTo wsX6_inletTo) := goodIn_app (goodIn_of _ (by decide +kernel)) ggX6_reachable_X6_inletTo
set_option maxRecDepth 20000 in
theorem ggX6_reachable_X6_freeBehind : GoodIn wsX6_reachable wsX6_freeBehind := goodIn_r _ [36, 1, 22, 23, 5, 24, 37, 38, 39, 40, 7, 8, 9, 10, 14, 15, 16, 17, 41, 42, 43, 44, 45, 46, 47, 48, 49, 50, 51, 52] (by decide +kernel) (by decide +kernel)
set_option maxRecDepth 20000 in
theorem gX6_reachable_X6_freeBehind : GoodIn wsX6_reachable (wsV RX6 65 RX6 yX6_freeBehind wsX6_freeBehind) := goodIn_app (goodIn_of _ (by decide +kernel)) ggX6_reachable_X6_freeBehind
theorem dX6_reachable_0 : decode cX6_reachable 0 = .ok (.aload_n 0, 1) := by decide +kernel
theorem dX6_reachable_1 : decode cX6_reachable 1 = .ok (.iconst 0, 1) := by decide +kernel
theorem dX6_reachable_2 : decode cX6_reachable 2 = .ok (.iload_n 1, 1) := by decide +kernel
theorem dX6_reachable_3 : decode cX6_reachable 3 = .ok (.invokevirtual 78, 3) := by decide +kernel
theorem dX6_reachable_6 : decode cX6_reachable 6 = .ok (.ifCond .ne 5, 3) := by decide +kernel
theorem dX6_reachable_9 : decode cX6_reachable 9 = .ok (.iconst (-1), 1) := by decide +kernel
theorem dX6_reachable_10 : decode cX6_reachable 10 = .ok (.ireturn, 1) := by decide +kernel
theorem dX6_reachable_11 : decode cX6_reachable 11 = .ok (.aload_n 0, 1) := by decide +kernel
theorem dX6_reachable_12 : decode cX6_reachable 12 = .ok (.iconst 0, 1) := by decide +kernel
theorem dX6_reachable_13 : decode cX6_reachable 13 = .ok (.iload_n 1, 1) := by decide +kernel
theorem dX6_reachable_14 : decode cX6_reachable 14 = .ok (.iconst 0, 1) := by decide +kernel
theorem dX6_reachable_15 : decode cX6_reachable 15 = .ok (.invokevirtual 41, 3) := by decide +kernel
theorem dX6_reachable_18 : decode cX6_reachable 18 = .ok (.iconst (-1), 1) := by decide +kernel
theorem dX6_reachable_19 : decode cX6_reachable 19 = .ok (.if_icmp .eq 6, 3) := by decide +kernel
theorem dX6_reachable_22 : decode cX6_reachable 22 = .ok (.bipush (-3), 2) := by decide +kernel
theorem dX6_reachable_24 : decode cX6_reachable 24 = .ok (.ireturn, 1) := by decide +kernel
theorem dX6_reachable_25 : decode cX6_reachable 25 = .ok (.aload_n 0, 1) := by decide +kernel
theorem dX6_reachable_26 : decode cX6_reachable 26 = .ok (.iconst 0, 1) := by decide +kernel
theorem dX6_reachable_27 : decode cX6_reachable 27 = .ok (.iload_n 1, 1) := by decide +kernel
theorem dX6_reachable_28 : decode cX6_reachable 28 = .ok (.aload_n 0, 1) := by decide +kernel
theorem dX6_reachable_29 : decode cX6_reachable 29 = .ok (.getfield 7, 3) := by decide +kernel
theorem dX6_reachable_32 : decode cX6_reachable 32 = .ok (.iconst 1, 1) := by decide +kernel
theorem dX6_reachable_33 : decode cX6_reachable 33 = .ok (.iaload, 1) := by decide +kernel
theorem dX6_reachable_34 : decode cX6_reachable 34 = .ok (.idiv, 1) := by decide +kernel
theorem dX6_reachable_35 : decode cX6_reachable 35 = .ok (.invokevirtual 62, 3) := by decide +kernel
theorem dX6_reachable_38 : decode cX6_reachable 38 = .ok (.istore_n 2, 1) := by decide +kernel
theorem dX6_reachable_39 : decode cX6_reachable 39 = .ok (.iconst 0, 1) := by decide +kernel
theorem dX6_reachable_40 : decode cX6_reachable 40 = .ok (.istore_n 3, 1) := by decide +kernel
theorem dX6_reachable_41 : decode cX6_reachable 41 = .ok (.iconst 0, 1) := by decide +kernel
theorem dX6_reachable_42 : decode cX6_reachable 42 = .ok (.istore 4, 2) := by decide +kernel
theorem dX6_reachable_44 : decode cX6_reachable 44 = .ok (.iload 4, 2) := by decide +kernel
theorem dX6_reachable_46 : decode cX6_reachable 46 = .ok (.aload_n 0, 1) := by decide +kernel
theorem dX6_reachable_47 : decode cX6_reachable 47 = .ok (.iconst 0, 1) := by decide +kernel
theorem dX6_reachable_48 : decode cX6_reachable 48 = .ok (.invokevirtual 30, 3) := by decide +kernel
theorem dX6_reachable_51 : decode cX6_reachable 51 = .ok (.if_icmp .ge 59, 3) := by decide +kernel
theorem dX6_reachable_54 : decode cX6_reachable 54 = .ok (.aload_n 0, 1) := by decide +kernel
theorem dX6_reachable_55 : decode cX6_reachable 55 = .ok (.iconst 0, 1) := by decide +kernel
theorem dX6_reachable_56 : decode cX6_reachable 56 = .ok (.iload 4, 2) := by decide +kernel
theorem dX6_reachable_58 : decode cX6_reachable 58 = .ok (.invokevirtual 81, 3) := by decide +kernel
theorem dX6_reachable_61 : decode cX6_reachable 61 = .ok (.iconst (-1), 1) := by decide +kernel
theorem dX6_reachable_62 : decode cX6_reachable 62 = .ok (.if_icmp .ne 26, 3) := by decide +kernel
theorem dX6_reachable_65 : decode cX6_reachable 65 = .ok (.iload_n 2, 1) := by decide +kernel
theorem dX6_reachable_66 : decode cX6_reachable 66 = .ok (.aload_n 0, 1) := by decide +kernel
theorem dX6_reachable_67 : decode cX6_reachable 67 = .ok (.iconst 0, 1) := by decide +kernel
theorem dX6_reachable_68 : decode cX6_reachable 68 = .ok (.iload 4, 2) := by decide +kernel
theorem dX6_reachable_70 : decode cX6_reachable 70 = .ok (.aload_n 0, 1) := by decide +kernel
theorem dX6_reachable_71 : decode cX6_reachable 71 = .ok (.getfield 7, 3) := by decide +kernel
theorem dX6_reachable_74 : decode cX6_reachable 74 = .ok (.iconst 1, 1) := by decide +kernel
theorem dX6_reachable_75 : decode cX6_reachable 75 = .ok (.iaload, 1) := by decide +kernel
theorem dX6_reachable_76 : decode cX6_reachable 76 = .ok (.idiv, 1) := by decide +kernel
theorem dX6_reachable_77 : decode cX6_reachable 77 = .ok (.invokevirtual 65, 3) := by decide +kernel
theorem dX6_reachable_80 : decode cX6_reachable 80 = .ok (.iand, 1) := by decide +kernel
theorem dX6_reachable_81 : decode cX6_reachable 81 = .ok (.ifCond .eq 7, 3) := by decide +kernel
theorem dX6_reachable_84 : decode cX6_reachable 84 = .ok (.iconst 1, 1) := by decide +kernel
theorem dX6_reachable_85 : decode cX6_reachable 85 = .ok (.goto 4, 3) := by decide +kernel
theorem dX6_reachable_88 : decode cX6_reachable 88 = .ok (.iconst 0, 1) := by decide +kernel
theorem dX6_reachable_89 : decode cX6_reachable 89 = .ok (.istore 5, 2) := by decide +kernel
theorem dX6_reachable_91 : decode cX6_reachable 91 = .ok (.iload_n 3, 1) := by decide +kernel
theorem dX6_reachable_92 : decode cX6_reachable 92 = .ok (.iload 5, 2) := by decide +kernel
theorem dX6_reachable_94 : decode cX6_reachable 94 = .ok (.ifCond .eq 7, 3) := by decide +kernel
theorem dX6_reachable_97 : decode cX6_reachable 97 = .ok (.iconst 1, 1) := by decide +kernel
theorem dX6_reachable_98 : decode cX6_reachable 98 = .ok (.goto 4, 3) := by decide +kernel
theorem dX6_reachable_101 : decode cX6_reachable 101 = .ok (.iconst 0, 1) := by decide +kernel
theorem dX6_reachable_102 : decode cX6_reachable 102 = .ok (.iadd, 1) := by decide +kernel
theorem dX6_reachable_103 : decode cX6_reachable 103 = .ok (.istore_n 3, 1) := by decide +kernel
theorem dX6_reachable_104 : decode cX6_reachable 104 = .ok (.iinc 4 1, 3) := by decide +kernel
theorem dX6_reachable_107 : decode cX6_reachable 107 = .ok (.goto (-63), 3) := by decide +kernel
theorem dX6_reachable_110 : decode cX6_reachable 110 = .ok (.iload_n 3, 1) := by decide +kernel
theorem dX6_reachable_111 : decode cX6_reachable 111 = .ok (.ireturn, 1) := by decide +kernel
end
section
/-! helpers: a method's start and end, calls that change nothing, calls that change their own cells; all by va_ rows of the kit -/
/-- what stays true of the machine: classes, the two array classes, the nest mates' links -/
def KN (D : va_G) (cI cN : ClassId) (U : State) : Prop := va_K D vwCl [(cI, .int), (cN, .object RX1)] U ∧ va_Nw (.methodLinkNest RX1 81 yX5_link RX5) U ∧ va_Nw (.methodLinkNest RX3 64 yX5_hasBit RX5) U ∧ va_Nw (.methodLinkNest RX3 161 yX5_link RX5) U
theorem KN.warm {D : va_G} {cI cN : ClassId} {s U : State} (hW : s.WarmedH U.vm) (h : KN D cI cN s) : KN D cI cN U := ⟨va_K.moved hW.alike h.1, va_Nw.warmM hW h.2.1, va_Nw.warmM hW h.2.2.1, va_Nw.warmM hW h.2.2.2⟩
theorem KN.same {D : va_G} {cI cN : ClassId} {s U : State} (hv : s.vm = U.vm) (h : KN D cI cN s) : KN D cI cN U := ⟨va_K.moved (hv ▸ Vm.Alike.refl s.vm) h.1, h.2.1.same rfl hv, h.2.2.1.same rfl hv, h.2.2.2.same rfl hv⟩
/-- a start that a method only reads, and one that it writes -/
def PreP (D : va_G) (cI cN : ClassId) (ws : va_W) (sz : Nat) (U : State) : Prop := U.heap.size = sz ∧ va_P D vwCl ws U.heap ∧ KN D cI cN U
def PreW (D : va_G) (cI cN : ClassId) (ws : va_W) (sz : Nat) (U : State) : Prop := U.heap.size = sz ∧ va_P D vwCl ws U.heap ∧ KN D cI cN U ∧ va_D (fun _ => True) ws
def nwA (sz : Nat) : Nat → Prop := fun q => sz ≤ q
def PostW (D : va_G) (w1 : va_W) (A : Nat → Prop) (t : State) : Prop := va_P D vwCl w1 t.heap ∧ va_D A w1
abbrev QPi (r0 : Int32) (sz : Nat) : Array Value → State → Outcome → State → Prop := va_Qi (fun r (_ : Unit) => r = r0) (fun _ _ => True) (nwA sz)
abbrev QPr (a0 : Nat) (sz : Nat) : Array Value → State → Outcome → State → Prop := va_Qr (fun (_ : Unit) => True) (fun _ a _ => a = a0) (nwA sz)
abbrev QWi (D : va_G) (r0 : Int32) (w1 wc : va_W) (sz : Nat) : Array Value → State → Outcome → State → Prop := va_Qi (fun r (_ : Unit) => r = r0) (fun _ t => PostW D w1 (va_A wc sz) t) (va_A wc sz)
abbrev QWv (D : va_G) (w1 wc : va_W) (sz : Nat) : Array Value → State → Outcome → State → Prop := va_Qv (fun (_ : Unit) => True) (fun _ t => PostW D w1 (va_A wc sz) t) (va_A wc sz)
/-- contracts -/
abbrev CtP (l : Launch) (D : va_G) (cI cN : ClassId) (y : MethodName) (wy : List Cond) (rm : Room) (av : List Value) (wc : va_W) (sz : Nat) (r0 : Int32) : Prop := Met l y wy rm (va_Pc av (PreP D cI cN wc sz)) (QPi r0 sz) 0 0 (nwA sz)
abbrev CtR (l : Launch) (D : va_G) (cI cN : ClassId) (y : MethodName) (wy : List Cond) (rm : Room) (av : List Value) (wc : va_W) (sz : Nat) (a0 : Nat) : Prop := Met l y wy rm (va_Pc av (PreP D cI cN wc sz)) (QPr a0 sz) 0 0 (nwA sz)
abbrev CtI (l : Launch) (D : va_G) (cI cN : ClassId) (y : MethodName) (wy : List Cond) (rm : Room) (mc ms : Nat) (av : List Value) (wc : va_W) (sz : Nat) (r0 : Int32) (w1 : va_W) : Prop := Met l y wy rm (va_Pc av (PreW D cI cN wc sz)) (QWi D r0 w1 wc sz) mc ms (va_A wc sz)
abbrev CtV (l : Launch) (D : va_G) (cI cN : ClassId) (y : MethodName) (wy : List Cond) (rm : Room) (mc ms : Nat) (av : List Value) (wc : va_W) (sz : Nat) (w1 : va_W) : Prop := Met l y wy rm (va_Pc av (PreW D cI cN wc sz)) (QWv D w1 wc sz) mc ms (va_A wc sz)
section HA
variable {l : Launch} {D : va_G} {cI cN : ClassId} {y : MethodName} {wy wy' : List Cond} {rm : Room} {av : List Value} {wc w1 : va_W} {sz a0 mc ms : Nat} {r0 : Int32} {cc : ByteArray} {maxL : Nat} {ret : Option FieldType}
/-- the start of a method that only reads, with an int answer (also boolean: hn) -/
theorem mP (hy : plainName y.cls = true) (hw : wy = Cond.code y cc maxL ret :: wy') {ty : FieldType} (hret : ret = some ty) (hlen : (lg_sl av).length ≤ maxL)
    (body : ∀ (p : Program) (e : Env) (s : State) (m : MethodId) (args : Array Value) (below : List Frame) (meth : Method) (c : Code) (Q : State → Prop), CallFix p m c cc maxL s args wy y.cls → KN D cI cN s → va_P D vwCl wc s.heap → va_S (nwA s.heap.size) s.heap s.heap [] →
      (∀ (H : Heap) (locs : List Loc) (ls : Array Slot) (pc : Nat), decode cc pc = .ok (.ireturn, 1) → narrow ty (.int r0) = .int r0 → va_S (nwA s.heap.size) s.heap H locs → W p l e (headSpec wy rm).room s m args below meth c H locs 0 0 Q (F0 m pc ls [.int r0])) →
      ∀ ls : Array Slot, lv_has ls maxL (lv_args 0 av) → W p l e (headSpec wy rm).room s m args below meth c s.heap [] 0 0 Q (F0 m 0 ls [])) : CtP l D cI cN y wy rm av wc sz r0 := by
  refine Met.ofW (cc := cc) (maxL := maxL) (ret := ret) hy hw ?_
  intro p e s m args below meth c s₁ B hml hv
  obtain ⟨rfl, hsz, hP, hK⟩ := hv
  have hlocks := B.notSynchronized
  subst hsz
  rw [lg_entry_eq]
  refine body p e s m _ below meth c _ ⟨B.exec, B.bytes, hml, findClass_of_methodNamed B.named, atoms_spec (ws := wy) B.pre⟩ hK hP va_S.rf ?_ _ (lv_entry av hlen)
  intro H locs ls pc hdg hn hS
  exact W.zret B.exec B.bytes (B.returns.trans hret) hn (fun t ht _ => ⟨⟨r0, (), rfl, rfl, trivial⟩, hS.F ht⟩) hS.2.2 hdg
theorem mW (hy : plainName y.cls = true) (hw : wy = Cond.code y cc maxL ret :: wy') {ty : FieldType} (hret : ret = some ty) (hlen : (lg_sl av).length ≤ maxL)
    (body : ∀ (p : Program) (e : Env) (s : State) (m : MethodId) (args : Array Value) (below : List Frame) (meth : Method) (c : Code) (Q : State → Prop) (A : Nat → Prop), CallFix p m c cc maxL s args wy y.cls → KN D cI cN s → va_P D vwCl wc s.heap → va_D A wc → va_S A s.heap s.heap [] → (∀ q : Nat, s.heap.size ≤ q → A q) →
      (∀ (H : Heap) (locs : List Loc) (ls : Array Slot) (pc : Nat), decode cc pc = .ok (.ireturn, 1) → narrow ty (.int r0) = .int r0 → va_P D vwCl w1 H → va_D A w1 → va_S A s.heap H locs → W p l e (headSpec wy rm).room s m args below meth c H locs mc ms Q (F0 m pc ls [.int r0])) →
      ∀ ls : Array Slot, lv_has ls maxL (lv_args 0 av) → W p l e (headSpec wy rm).room s m args below meth c s.heap [] 0 0 Q (F0 m 0 ls [])) : CtI l D cI cN y wy rm mc ms av wc sz r0 w1 := by
  refine Met.ofW (cc := cc) (maxL := maxL) (ret := ret) hy hw ?_
  intro p e s m args below meth c s₁ B hml hv
  obtain ⟨rfl, hsz, hP, hK, hD0⟩ := hv
  have hlocks := B.notSynchronized
  subst hsz
  rw [lg_entry_eq]
  refine body p e s m _ below meth c _ (va_A wc s.heap.size) ⟨B.exec, B.bytes, hml, findClass_of_methodNamed B.named, atoms_spec (ws := wy) B.pre⟩ hK hP hD0.self va_S.rf (fun q h => Or.inr h) ?_ _ (lv_entry av hlen)
  intro H locs ls pc hdg hn hP1 hD1 hS
  exact W.zret B.exec B.bytes (B.returns.trans hret) hn (fun t ht _ => ⟨⟨r0, (), rfl, rfl, by rw [ht]; exact hP1, hD1⟩, hS.F ht⟩) hS.2.2 hdg
theorem mV (hy : plainName y.cls = true) (hw : wy = Cond.code y cc maxL none :: wy') (hlen : (lg_sl av).length ≤ maxL)
    (body : ∀ (p : Program) (e : Env) (s : State) (m : MethodId) (args : Array Value) (below : List Frame) (meth : Method) (c : Code) (Q : State → Prop) (A : Nat → Prop), CallFix p m c cc maxL s args wy y.cls → meth.name = y.name → KN D cI cN s → va_P D vwCl wc s.heap → va_D A wc → va_S A s.heap s.heap [] → (∀ q : Nat, s.heap.size ≤ q → A q) →
      (∀ (H : Heap) (locs : List Loc) (ls : Array Slot) (pc : Nat), decode cc pc = .ok (.return_, 1) → va_P D vwCl w1 H → va_D A w1 → va_S A s.heap H locs → W p l e (headSpec wy rm).room s m args below meth c H locs mc ms Q (F0 m pc ls [])) →
      ∀ ls : Array Slot, lv_has ls maxL (lv_args 0 av) → W p l e (headSpec wy rm).room s m args below meth c s.heap [] 0 0 Q (F0 m 0 ls [])) : CtV l D cI cN y wy rm mc ms av wc sz w1 := by
  refine Met.ofW (cc := cc) (maxL := maxL) (ret := none) hy hw ?_
  intro p e s m args below meth c s₁ B hml hv
  obtain ⟨rfl, hsz, hP, hK, hD0⟩ := hv
  have hlocks := B.notSynchronized
  subst hsz
  rw [lg_entry_eq]
  refine body p e s m _ below meth c _ (va_A wc s.heap.size) ⟨B.exec, B.bytes, hml, findClass_of_methodNamed B.named, atoms_spec (ws := wy) B.pre⟩ (name_of_methodNamed B.named B.method).1 hK hP hD0.self va_S.rf (fun q h => Or.inr h) ?_ _ (lv_entry av hlen)
  intro H locs ls pc hdg hP1 hD1 hS
  exact W.vret B.exec B.bytes B.returns (fun t ht _ => ⟨⟨(), rfl, trivial, by rw [ht]; exact hP1, hD1⟩, hS.F ht⟩) hS.2.2 hdg
theorem mR (hy : plainName y.cls = true) (hw : wy = Cond.code y cc maxL ret :: wy') {C : String} (hret : ret = some (.object C)) (hlen : (lg_sl av).length ≤ maxL)
    (body : ∀ (p : Program) (e : Env) (s : State) (m : MethodId) (args : Array Value) (below : List Frame) (meth : Method) (c : Code) (Q : State → Prop), CallFix p m c cc maxL s args wy y.cls → KN D cI cN s → va_P D vwCl wc s.heap → va_S (nwA s.heap.size) s.heap s.heap [] →
      (∀ (H : Heap) (locs : List Loc) (ls : Array Slot) (pc : Nat), decode cc pc = .ok (.areturn, 1) → va_S (nwA s.heap.size) s.heap H locs → W p l e (headSpec wy rm).room s m args below meth c H locs 0 0 Q (F0 m pc ls [.ref a0])) →
      ∀ ls : Array Slot, lv_has ls maxL (lv_args 0 av) → W p l e (headSpec wy rm).room s m args below meth c s.heap [] 0 0 Q (F0 m 0 ls [])) : CtR l D cI cN y wy rm av wc sz a0 := by
  refine Met.ofW (cc := cc) (maxL := maxL) (ret := ret) hy hw ?_
  intro p e s m args below meth c s₁ B hml hv
  obtain ⟨rfl, hsz, hP, hK⟩ := hv
  have hlocks := B.notSynchronized
  subst hsz
  rw [lg_entry_eq]
  refine body p e s m _ below meth c _ ⟨B.exec, B.bytes, hml, findClass_of_methodNamed B.named, atoms_spec (ws := wy) B.pre⟩ hK hP va_S.rf ?_ _ (lv_entry av hlen)
  intro H locs ls pc hdg hS
  exact W.aret (v := .ref a0) B.exec B.bytes (B.returns.trans hret) (Or.inl ⟨C, rfl⟩) (Or.inr ⟨a0, rfl⟩) (fun t ht _ => ⟨⟨(), a0, rfl, trivial, rfl⟩, hS.F ht⟩) hS.2.2 hdg
end HA
theorem blP {av : List Value} {D : va_G} {cI cN : ClassId} {ws : va_W} {sz : Nat} : FrameBlind (va_Pc av (PreP D cI cN ws sz)) := fun a U g mk q => by
  obtain ⟨q0, q1, qP, qK⟩ := q
  exact ⟨q0, q1, qP, KN.same (s := U) (U := U.calling g mk a) rfl qK⟩
theorem blW {av : List Value} {D : va_G} {cI cN : ClassId} {ws : va_W} {sz : Nat} : FrameBlind (va_Pc av (PreW D cI cN ws sz)) := fun a U g mk q => by
  obtain ⟨q0, q1, qP, qK, qD⟩ := q
  exact ⟨q0, q1, qP, KN.same (s := U) (U := U.calling g mk a) rfl qK, qD⟩
theorem nw_keep {D : va_G} {ws : va_W} {H H1 : Heap} (hP : va_P D vwCl ws H) (hk : ∀ q : Nat, q < H.size → ¬ nwA H.size q → H1[q]? = H[q]?) : va_P D vwCl ws H1 :=
  hP.kept fun k q hq => hk q.1 (hP k q hq).lt (Nat.not_le.mpr (hP k q hq).lt)
/-- behind a call that wrote its own cells: the caller's world, in the caller's order -/
theorem back_w {D : va_G} {A0 : Nat → Prop} {ws wc wr w1 wf : va_W} {H H1 : Heap} (hP : va_P D vwCl ws H) (hD : va_D A0 ws) (isC isR isF : List Nat) (hC : isC.map (fun i => ws[i]?) = wc.map some) (hR : isR.map (fun i => ws[i]?) = wr.map some) (hn : va_nd isR = true) (hdis : ∀ i ∈ isR, i ∉ isC) (hFi : isF.map (fun i => (wr ++ w1)[i]?) = wf.map some) (hnF : va_nd isF = true)
    (hk : ∀ q : Nat, q < H.size → ¬ va_A wc H.size q → H1[q]? = H[q]?) (hF : ∀ q, va_A wc H.size q → A0 q) (hP1 : va_P D vwCl w1 H1) (hD1 : va_D (va_A wc H.size) w1) : va_P D vwCl wf H1 ∧ va_D A0 wf := by
  obtain ⟨h1, h2⟩ := va_join (wr := wr) (w1 := w1) hP hD isC isR hC hR hn hdis hk hF hP1 hD1
  refine ⟨h1.sub isF ?_, h2.sub isF hnF hFi⟩
  have : isF.filterMap (fun i => (wr ++ w1)[i]?) = (isF.map (fun i => (wr ++ w1)[i]?)).filterMap id := by rw [List.filterMap_map]; rfl
  rw [this, hFi]
  rw [List.filterMap_map]
  simp
section HC
variable {p : Program} {l : Launch} {e : Env} {R : Room} {s : State} {m : MethodId} {args : Array Value} {below : List Frame} {meth : Method} {c : Code} {H : Heap} {locs : List Loc} {cells slots : Nat} {Q : State → Prop}
variable {pc : Nat} {ls : Array Slot} {rest st0 As : List Value} {A0 : Nat → Prop} {H0 : Heap} {mc ms nL index n maxL : Nat} {D : va_G} {cI cN : ClassId} {cc bytes : ByteArray} {y : MethodName} {ret : Option FieldType} {wy Ts : List Cond} {rm : Room} {own C : String} {b : Nat} {r0 : Int32} {a0 : Nat} {ws wc wr w1 wf : va_W} {ci q0 : Nat} {fs : List Value} {T : u_T} {N : Nat}
/-- a virtual call that only reads: an int comes -/
theorem cPi (S : CallFix p m c cc nL s args Ts own) (hM : CtP l D cI cN y wy rm (.ref b :: As) wc H.size r0) (cw : CallW R s args own C index y bytes maxL ret wy rm 0 0 n) (hK : KN D cI cN s) (hP : va_P D vwCl ws H) (hS : va_S A0 H0 H locs) (hA : ∀ q, H0.size ≤ q → A0 q)
    (is : List Nat) (hsub : is.filterMap (fun i => ws[i]?) = wc) (he : ws[q0]? = some (b, .inr (ci, fs))) (hc : vwCl[ci]? = some (C, T, N)) (hn : As.length = n) (hsz : ls.size = nL) (hst : st0 = As.reverse ++ .ref b :: rest) (hroom : (rest.map fun v => v.category).sum ≤ 8) (hdg : decode cc pc = .ok (.invokevirtual index, 3)) (hf : cells ≤ R.cells ∧ slots ≤ R.slots)
    (kk : ∀ (H1 : Heap) (locs1 : List Loc), va_P D vwCl ws H1 → va_S A0 H0 H1 locs1 → W p l e R s m args below meth c H1 locs1 cells slots Q (F0 m (pc + 3) ls (.int r0 :: rest))) : W p l e R s m args below meth c H locs cells slots Q (F0 m pc ls st0) := by
  have hPc : va_P D vwCl wc H := hP.sub is hsub
  refine va_calli (va_runV (As := As) (rest := rest) S hM cw ⟨blP, va_recv hK.1 hP hc he, fun U hU hW => ⟨rfl, by rw [hU], by rw [hU]; exact hPc, hK.warm hW⟩⟩ rfl hn hsz hst (lv_room hroom) hdg hf) hS (fun q _ h => hA q (Nat.le_trans hS.1 h)) (fun q h => hA q (Nat.le_trans hS.1 h)) (fun r u t H1 locs1 ht hvm hw hB hz1 hk1 hS1 => ?_)
  subst hw
  exact kk H1 locs1 (nw_keep hP hk1) hS1
/-- a static call of its own class (or of another one's static member by a link) that only reads -/
theorem cSi (S : CallFix p m c cc nL s args Ts own) (hM : CtP l D cI cN y wy rm As wc H.size r0) (cw : CallB R s args own index y bytes maxL ret wy rm 0 0 n ∧ (Cond.static y).before args s = true) (hK : KN D cI cN s) (hP : va_P D vwCl ws H) (hS : va_S A0 H0 H locs) (hA : ∀ q, H0.size ≤ q → A0 q)
    (is : List Nat) (hsub : is.filterMap (fun i => ws[i]?) = wc) (hn : As.length = n) (hsz : ls.size = nL) (hst : st0 = As.reverse ++ rest) (hroom : (rest.map fun v => v.category).sum ≤ 8) (hdg : decode cc pc = .ok (.invokestatic index, 3)) (hf : cells ≤ R.cells ∧ slots ≤ R.slots)
    (kk : ∀ (H1 : Heap) (locs1 : List Loc), va_P D vwCl ws H1 → va_S A0 H0 H1 locs1 → W p l e R s m args below meth c H1 locs1 cells slots Q (F0 m (pc + 3) ls (.int r0 :: rest))) : W p l e R s m args below meth c H locs cells slots Q (F0 m pc ls st0) := by
  have hPc : va_P D vwCl wc H := hP.sub is hsub
  refine va_calli (va_runS (As := As) (rest := rest) S hM cw ⟨blP, fun U hU hW => ⟨rfl, by rw [hU], by rw [hU]; exact hPc, hK.warm hW⟩⟩ rfl hn hsz hst (lv_room hroom) hdg hf) hS (fun q _ h => hA q (Nat.le_trans hS.1 h)) (fun q h => hA q (Nat.le_trans hS.1 h)) (fun r u t H1 locs1 ht hvm hw hB hz1 hk1 hS1 => ?_)
  subst hw
  exact kk H1 locs1 (nw_keep hP hk1) hS1
/-- a static call of a nest mate that only reads -/
theorem cNi {host : String} (S : CallFix p m c cc nL s args Ts own) (hM : CtP l D cI cN y wy rm As wc H.size r0) (cw : va_CN R s args own index y host bytes maxL ret wy rm 0 0 n ∧ (Cond.static y).before args s = true ∧ True) (hK : KN D cI cN s) (hP : va_P D vwCl ws H) (hS : va_S A0 H0 H locs) (hA : ∀ q, H0.size ≤ q → A0 q)
    (is : List Nat) (hsub : is.filterMap (fun i => ws[i]?) = wc) (hn : As.length = n) (hsz : ls.size = nL) (hst : st0 = As.reverse ++ rest) (hroom : (rest.map fun v => v.category).sum ≤ 8) (hdg : decode cc pc = .ok (.invokestatic index, 3)) (hf : cells ≤ R.cells ∧ slots ≤ R.slots)
    (kk : ∀ (H1 : Heap) (locs1 : List Loc), va_P D vwCl ws H1 → va_S A0 H0 H1 locs1 → W p l e R s m args below meth c H1 locs1 cells slots Q (F0 m (pc + 3) ls (.int r0 :: rest))) : W p l e R s m args below meth c H locs cells slots Q (F0 m pc ls st0) := by
  have hPc : va_P D vwCl wc H := hP.sub is hsub
  refine va_calli (va_runSN (As := As) (rest := rest) S hM cw ⟨blP, fun U hU hW => ⟨rfl, by rw [hU], by rw [hU]; exact hPc, hK.warm hW⟩⟩ rfl hn hsz hst (lv_room hroom) hdg hf) hS (fun q _ h => hA q (Nat.le_trans hS.1 h)) (fun q h => hA q (Nat.le_trans hS.1 h)) (fun r u t H1 locs1 ht hvm hw hB hz1 hk1 hS1 => ?_)
  subst hw
  exact kk H1 locs1 (nw_keep hP hk1) hS1
/-- a virtual call that only reads: a cell comes -/
theorem cPr (S : CallFix p m c cc nL s args Ts own) (hM : CtR l D cI cN y wy rm (.ref b :: As) wc H.size a0) (cw : CallW R s args own C index y bytes maxL ret wy rm 0 0 n) (hK : KN D cI cN s) (hP : va_P D vwCl ws H) (hS : va_S A0 H0 H locs) (hA : ∀ q, H0.size ≤ q → A0 q)
    (is : List Nat) (hsub : is.filterMap (fun i => ws[i]?) = wc) (he : ws[q0]? = some (b, .inr (ci, fs))) (hc : vwCl[ci]? = some (C, T, N)) (hn : As.length = n) (hsz : ls.size = nL) (hst : st0 = As.reverse ++ .ref b :: rest) (hroom : (rest.map fun v => v.category).sum ≤ 8) (hdg : decode cc pc = .ok (.invokevirtual index, 3)) (hf : cells ≤ R.cells ∧ slots ≤ R.slots)
    (kk : ∀ (H1 : Heap) (locs1 : List Loc), va_P D vwCl ws H1 → va_S A0 H0 H1 locs1 → W p l e R s m args below meth c H1 locs1 cells slots Q (F0 m (pc + 3) ls (.ref a0 :: rest))) : W p l e R s m args below meth c H locs cells slots Q (F0 m pc ls st0) := by
  have hPc : va_P D vwCl wc H := hP.sub is hsub
  refine va_callr (va_runV (As := As) (rest := rest) S hM cw ⟨blP, va_recv hK.1 hP hc he, fun U hU hW => ⟨rfl, by rw [hU], by rw [hU]; exact hPc, hK.warm hW⟩⟩ rfl hn hsz hst (lv_room hroom) hdg hf) hS (fun q _ h => hA q (Nat.le_trans hS.1 h)) (fun q h => hA q (Nat.le_trans hS.1 h)) (fun u ra t H1 locs1 ht hvm hw hB hz1 hk1 hS1 => ?_)
  subst hB
  exact kk H1 locs1 (nw_keep hP hk1) hS1
/-- a virtual call that writes its own cells: an int comes -/
theorem cWi (S : CallFix p m c cc nL s args Ts own) (hM : CtI l D cI cN y wy rm mc ms (.ref b :: As) wc H.size r0 w1) (cw : CallW R s args own C index y bytes maxL ret wy rm mc ms n) (hK : KN D cI cN s) (hP : va_P D vwCl ws H) (hD : va_D A0 ws) (hS : va_S A0 H0 H locs) (hA : ∀ q, H0.size ≤ q → A0 q)
    (isC isR isF : List Nat) (hC : isC.map (fun i => ws[i]?) = wc.map some) (hR : isR.map (fun i => ws[i]?) = wr.map some) (hnC : va_nd isC = true) (hnR : va_nd isR = true) (hdis : ∀ i ∈ isR, i ∉ isC) (hFi : isF.map (fun i => (wr ++ w1)[i]?) = wf.map some) (hnF : va_nd isF = true)
    (he : ws[q0]? = some (b, .inr (ci, fs))) (hc : vwCl[ci]? = some (C, T, N)) (hn : As.length = n) (hsz : ls.size = nL) (hst : st0 = As.reverse ++ .ref b :: rest) (hroom : (rest.map fun v => v.category).sum ≤ 8) (hdg : decode cc pc = .ok (.invokevirtual index, 3)) (hf : cells + mc ≤ R.cells ∧ slots + ms ≤ R.slots)
    (kk : ∀ (H1 : Heap) (locs1 : List Loc), va_P D vwCl wf H1 → va_D A0 wf → va_S A0 H0 H1 locs1 → W p l e R s m args below meth c H1 locs1 (cells + mc) (slots + ms) Q (F0 m (pc + 3) ls (.int r0 :: rest))) : W p l e R s m args below meth c H locs cells slots Q (F0 m pc ls st0) := by
  have hsub : isC.filterMap (fun i => ws[i]?) = wc := by
    have h1 : isC.filterMap (fun i => ws[i]?) = (isC.map (fun i => ws[i]?)).filterMap id := by rw [List.filterMap_map]; rfl
    rw [h1, hC, List.filterMap_map]; simp
  have hPc : va_P D vwCl wc H := hP.sub isC hsub
  have hDc : va_D (fun _ => True) wc := (hD.sub isC hnC hC).weaken (fun _ _ _ _ => trivial)
  have hFc := va_free (wc := wc) hD hS hA isC hC
  refine va_calli (va_runV (As := As) (rest := rest) S hM cw ⟨blW, va_recv hK.1 hP hc he, fun U hU hW => ⟨rfl, by rw [hU], by rw [hU]; exact hPc, hK.warm hW, hDc⟩⟩ rfl hn hsz hst (lv_room hroom) hdg hf) hS (fun q _ h => hFc q h) hFc (fun r u t H1 locs1 ht hvm hw hB hz1 hk1 hS1 => ?_)
  subst hw
  obtain ⟨hP1, hD1⟩ := hB
  rw [ht] at hP1
  obtain ⟨h1, h2⟩ := back_w hP hD isC isR isF hC hR hnR hdis hFi hnF hk1 hFc hP1 hD1
  exact kk H1 locs1 h1 h2 hS1
theorem cWv (S : CallFix p m c cc nL s args Ts own) (hM : CtV l D cI cN y wy rm mc ms (.ref b :: As) wc H.size w1) (cw : CallW R s args own C index y bytes maxL ret wy rm mc ms n) (hK : KN D cI cN s) (hP : va_P D vwCl ws H) (hD : va_D A0 ws) (hS : va_S A0 H0 H locs) (hA : ∀ q, H0.size ≤ q → A0 q)
    (isC isR isF : List Nat) (hC : isC.map (fun i => ws[i]?) = wc.map some) (hR : isR.map (fun i => ws[i]?) = wr.map some) (hnC : va_nd isC = true) (hnR : va_nd isR = true) (hdis : ∀ i ∈ isR, i ∉ isC) (hFi : isF.map (fun i => (wr ++ w1)[i]?) = wf.map some) (hnF : va_nd isF = true)
    (he : ws[q0]? = some (b, .inr (ci, fs))) (hc : vwCl[ci]? = some (C, T, N)) (hn : As.length = n) (hsz : ls.size = nL) (hst : st0 = As.reverse ++ .ref b :: rest) (hroom : (rest.map fun v => v.category).sum ≤ 8) (hdg : decode cc pc = .ok (.invokevirtual index, 3)) (hf : cells + mc ≤ R.cells ∧ slots + ms ≤ R.slots)
    (kk : ∀ (H1 : Heap) (locs1 : List Loc), va_P D vwCl wf H1 → va_D A0 wf → va_S A0 H0 H1 locs1 → W p l e R s m args below meth c H1 locs1 (cells + mc) (slots + ms) Q (F0 m (pc + 3) ls rest)) : W p l e R s m args below meth c H locs cells slots Q (F0 m pc ls st0) := by
  have hsub : isC.filterMap (fun i => ws[i]?) = wc := by
    have h1 : isC.filterMap (fun i => ws[i]?) = (isC.map (fun i => ws[i]?)).filterMap id := by rw [List.filterMap_map]; rfl
    rw [h1, hC, List.filterMap_map]; simp
  have hPc : va_P D vwCl wc H := hP.sub isC hsub
  have hDc : va_D (fun _ => True) wc := (hD.sub isC hnC hC).weaken (fun _ _ _ _ => trivial)
  have hFc := va_free (wc := wc) hD hS hA isC hC
  refine va_callv (va_runV (As := As) (rest := rest) S hM cw ⟨blW, va_recv hK.1 hP hc he, fun U hU hW => ⟨rfl, by rw [hU], by rw [hU]; exact hPc, hK.warm hW, hDc⟩⟩ rfl hn hsz hst (lv_room hroom) hdg hf) hS (fun q _ h => hFc q h) hFc (fun u t H1 locs1 ht hvm hw hB hz1 hk1 hS1 => ?_)
  obtain ⟨hP1, hD1⟩ := hB
  rw [ht] at hP1
  obtain ⟨h1, h2⟩ := back_w hP hD isC isR isF hC hR hnR hdis hFi hnF hk1 hFc hP1 hD1
  exact kk H1 locs1 h1 h2 hS1
/-- a static call that writes its own cells -/
theorem cSv (S : CallFix p m c cc nL s args Ts own) (hM : CtV l D cI cN y wy rm mc ms As wc H.size w1) (cw : CallB R s args own index y bytes maxL ret wy rm mc ms n ∧ (Cond.static y).before args s = true) (hK : KN D cI cN s) (hP : va_P D vwCl ws H) (hD : va_D A0 ws) (hS : va_S A0 H0 H locs) (hA : ∀ q, H0.size ≤ q → A0 q)
    (isC isR isF : List Nat) (hC : isC.map (fun i => ws[i]?) = wc.map some) (hR : isR.map (fun i => ws[i]?) = wr.map some) (hnC : va_nd isC = true) (hnR : va_nd isR = true) (hdis : ∀ i ∈ isR, i ∉ isC) (hFi : isF.map (fun i => (wr ++ w1)[i]?) = wf.map some) (hnF : va_nd isF = true)
    (hn : As.length = n) (hsz : ls.size = nL) (hst : st0 = As.reverse ++ rest) (hroom : (rest.map fun v => v.category).sum ≤ 8) (hdg : decode cc pc = .ok (.invokestatic index, 3)) (hf : cells + mc ≤ R.cells ∧ slots + ms ≤ R.slots)
    (kk : ∀ (H1 : Heap) (locs1 : List Loc), va_P D vwCl wf H1 → va_D A0 wf → va_S A0 H0 H1 locs1 → W p l e R s m args below meth c H1 locs1 (cells + mc) (slots + ms) Q (F0 m (pc + 3) ls rest)) : W p l e R s m args below meth c H locs cells slots Q (F0 m pc ls st0) := by
  have hsub : isC.filterMap (fun i => ws[i]?) = wc := by
    have h1 : isC.filterMap (fun i => ws[i]?) = (isC.map (fun i => ws[i]?)).filterMap id := by rw [List.filterMap_map]; rfl
    rw [h1, hC, List.filterMap_map]; simp
  have hPc : va_P D vwCl wc H := hP.sub isC hsub
  have hDc : va_D (fun _ => True) wc := (hD.sub isC hnC hC).weaken (fun _ _ _ _ => trivial)
  have hFc := va_free (wc := wc) hD hS hA isC hC
  refine va_callv (va_runS (As := As) (rest := rest) S hM cw ⟨blW, fun U hU hW => ⟨rfl, by rw [hU], by rw [hU]; exact hPc, hK.warm hW, hDc⟩⟩ rfl hn hsz hst (lv_room hroom) hdg hf) hS (fun q _ h => hFc q h) hFc (fun u t H1 locs1 ht hvm hw hB hz1 hk1 hS1 => ?_)
  obtain ⟨hP1, hD1⟩ := hB
  rw [ht] at hP1
  obtain ⟨h1, h2⟩ := back_w hP hD isC isR isF hC hR hnR hdis hFi hnF hk1 hFc hP1 hD1
  exact kk H1 locs1 h1 h2 hS1
/-- a constructor's call -/
theorem cIv (S : CallFix p m c cc nL s args Ts own) (hM : CtV l D cI cN y wy rm mc ms (.ref b :: As) wc H.size w1) (cw : CallB R s args own index y bytes maxL none wy rm mc ms n ∧ y.name = "<init>" ∧ (Cond.instanceMethod y).before args s = true) (hK : KN D cI cN s) (hP : va_P D vwCl ws H) (hD : va_D A0 ws) (hS : va_S A0 H0 H locs) (hA : ∀ q, H0.size ≤ q → A0 q)
    (isC isR isF : List Nat) (hC : isC.map (fun i => ws[i]?) = wc.map some) (hR : isR.map (fun i => ws[i]?) = wr.map some) (hnC : va_nd isC = true) (hnR : va_nd isR = true) (hdis : ∀ i ∈ isR, i ∉ isC) (hFi : isF.map (fun i => (wr ++ w1)[i]?) = wf.map some) (hnF : va_nd isF = true)
    (hn : As.length = n) (hsz : ls.size = nL) (hst : st0 = As.reverse ++ .ref b :: rest) (hroom : (rest.map fun v => v.category).sum ≤ 8) (hdg : decode cc pc = .ok (.invokespecial index, 3)) (hf : cells + mc ≤ R.cells ∧ slots + ms ≤ R.slots)
    (kk : ∀ (H1 : Heap) (locs1 : List Loc), va_P D vwCl wf H1 → va_D A0 wf → va_S A0 H0 H1 locs1 → W p l e R s m args below meth c H1 locs1 (cells + mc) (slots + ms) Q (F0 m (pc + 3) ls rest)) : W p l e R s m args below meth c H locs cells slots Q (F0 m pc ls st0) := by
  have hsub : isC.filterMap (fun i => ws[i]?) = wc := by
    have h1 : isC.filterMap (fun i => ws[i]?) = (isC.map (fun i => ws[i]?)).filterMap id := by rw [List.filterMap_map]; rfl
    rw [h1, hC, List.filterMap_map]; simp
  have hPc : va_P D vwCl wc H := hP.sub isC hsub
  have hDc : va_D (fun _ => True) wc := (hD.sub isC hnC hC).weaken (fun _ _ _ _ => trivial)
  have hFc := va_free (wc := wc) hD hS hA isC hC
  refine va_callv (va_runI (As := As) (rest := rest) S hM cw ⟨blW, fun U hU hW => ⟨rfl, by rw [hU], by rw [hU]; exact hPc, hK.warm hW, hDc⟩⟩ rfl hn hsz hst (lv_room hroom) hdg hf) hS (fun q _ h => hFc q h) hFc (fun u t H1 locs1 ht hvm hw hB hz1 hk1 hS1 => ?_)
  obtain ⟨hP1, hD1⟩ := hB
  rw [ht] at hP1
  obtain ⟨h1, h2⟩ := back_w hP hD isC isR isF hC hR hnR hdis hFi hnF hk1 hFc hP1 hD1
  exact kk H1 locs1 h1 h2 hS1
end HC
/-- following what a method computes: a branch taken, one not taken, a bind, a joint -/
theorem it_t {α : Sort _} {c : Prop} [Decidable c] {a b o : α} (h : (if c then a else b) = o) (hc : c) : a = o := by rw [if_pos hc] at h; exact h
theorem it_f {α : Sort _} {c : Prop} [Decidable c] {a b o : α} (h : (if c then a else b) = o) (hc : ¬ c) : b = o := by rw [if_neg hc] at h; exact h
theorem it_g {α : Type _} {c : Prop} [Decidable c] {a : Option α} {o : α} (h : (if c then a else none) = some o) : c ∧ a = some o := by
  by_cases hc : c
  · rw [if_pos hc] at h; exact ⟨hc, h⟩
  · rw [if_neg hc] at h; cases h
theorem it_b {α β : Type _} {x : Option α} {f : α → Option β} {o : β} (h : x.bind f = some o) : ∃ r, x = some r ∧ f r = some o := Option.bind_eq_some_iff.mp h
def jn {α β : Sort _} (a : α) (f : α → β) : β := f a
theorem it_j {α β : Sort _} {a : α} {f : α → β} {o : β} (h : jn a f = o) : ∃ r, a = r ∧ f r = o := ⟨a, rfl, h⟩
def inb (i : Int32) (n : Nat) : Bool := decide (0 ≤ i) && decide (i.toNatClampNeg < n)
theorem inb_in {i : Int32} {n : Nat} (h : inb i n = true) : vp_in i n := by
  simp only [inb, Bool.and_eq_true, decide_eq_true_eq] at h
  intro q
  rcases q with q | q
  · exact absurd h.1 (Int32.not_le.mpr q)
  · omega
theorem inb_nI {k n : Nat} (h : k < n) (hn : n < 2 ^ 31) : inb (nI k) n = true := by
  simp only [inb, Bool.and_eq_true, decide_eq_true_eq]
  exact ⟨nI_pos' (by omega), by rw [nI_clamp (by omega)]; exact h⟩
section HG
variable {p : Program} {l : Launch} {e : Env} {R : Room} {s : State} {m : MethodId} {args : Array Value} {below : List Frame} {meth : Method} {c : Code} {H : Heap} {locs : List Loc} {cells slots : Nat} {Q : State → Prop}
variable {cc : ByteArray} {pc : Nat} {ls : Array Slot} {rest : List Value} {D : va_G} {cl : List vw_C} {A : Nat → Prop} {a : Nat} {tys : List (ClassId × FieldType)} {ws wf : va_W} {H0 : Heap}
/-- a field is written: the world behind it in its own form -/
theorem gput (hexec : p.tables.exec = Jvm.exec) (hb : c.code = cc) {own ref C : String} {T : u_T} {N ci index : Nat} {Ts : List Cond} (hts : ∀ w ∈ Ts, w.before args s = true) (hin : ∀ w ∈ u_ws C T N, w ∈ Ts) (ty0 : Nat → FieldType) (hty : ∀ k, k < N → parseFieldDescriptor (T k).2.2.1 = some (ty0 k)) (hnm : ∀ a, a < N → ∀ b, b < N → a ≠ b → (T a).2.1 ≠ (T b).2.1) (hown : s.vm.findClass own = some m.cls) (hK : va_K D cl tys s) (hP : va_P D cl ws H) (hD : va_D A ws) (hS0 : va_S A H0 H locs) (q0 : Nat) {fs : List Value} (he : ws[q0]? = some (a, .inr (ci, fs))) (hc : cl[ci]? = some (C, T, N)) (k : Nat) (hk : k < N) (hlink : (Cond.fieldLink own index ref (T k).2.1 (T k).2.2.1).before args s = true) (hsame : ∀ x, s.fieldFound? (T k).1 (T k).2.1 (T k).2.2.1 = some x → s.fieldFound? ref (T k).2.1 (T k).2.2.1 = some x) (hfin : (T k).2.2.2 = false) {ty : FieldType} {v : Value} (hd : parseFieldDescriptor (T k).2.2.1 = some ty) (hn : narrow ty v = v) (hfit : fits ty v = true) (hl : k < fs.length)
    (hdg : decode cc pc = .ok (.putfield index, 3)) (hwf : ws.set q0 (a, .inr (ci, fs.set k v)) = wf) (kk : ∀ (H1 : Heap) (locs1 : List Loc), va_P D cl wf H1 → va_D A wf → va_S A H0 H1 locs1 → W p l e R s m args below meth c H1 locs1 cells slots Q (F0 m (pc + 3) ls rest)) : W p l e R s m args below meth c H locs cells slots Q (F0 m pc ls (v :: .ref a :: rest)) := by
  subst hwf
  exact va_put hexec hb hts hin ty0 hty hnm hown hK hP hD hS0 q0 he hc k hk hlink hsame hfin hd hn hfit hl hdg kk
theorem giast (hexec : p.tables.exec = Jvm.exec) (hb : c.code = cc) (hK : va_K D cl tys s) (hP : va_P D cl ws H) (hD : va_D A ws) (hS : va_S A H0 H locs) (q0 t0 : Nat) {cA : ClassId} {n : Nat} {f : Nat → Int32} (ha : ws[q0]? = some (a, .inl (cA, n, .inl f))) (ht : tys[t0]? = some (cA, .int)) {i : Int32} {x : Int32} (hin : vp_in i n) (hdg : decode cc pc = .ok (.iastore, 1)) (hwf : ws.set q0 (a, .inl (cA, n, .inl (upd f i.toNatClampNeg x))) = wf)
    (kk : ∀ (H1 : Heap) (locs1 : List Loc), va_P D cl wf H1 → va_D A wf → va_S A H0 H1 locs1 → W p l e R s m args below meth c H1 locs1 cells slots Q (F0 m (pc + 1) ls rest)) : W p l e R s m args below meth c H locs cells slots Q (F0 m pc ls (.int x :: .int i :: .ref a :: rest)) := by
  subst hwf
  exact va_iast hexec hb hK hP hD hS q0 t0 ha ht hin hdg kk
end HG
end
section
/-! the worlds: what the cells of a row, a network, a router, a text, the model are, by a pure state (fields, rows) -/
abbrev OS : Type := (Nat → Int32) × (Nat → Nat → Int32)
def setF (n : OS) (k : Nat) (v : Int32) : OS := (upd n.1 k v, n.2)
def setR (n : OS) (k : Nat) (f : Nat → Int32) : OS := (n.1, fun j => if j = k then f else n.2 j)
def rowN : Nat → Int32 := fun _ => (-6 : Int32)
def rget (f : Nat → Int32) (L : Nat) (i : Int32) : Int32 := if i < 0 then (-6 : Int32) else if Int32.ofNat L ≤ i then (-6 : Int32) else f i.toNatClampNeg
def rset (f : Nat → Int32) (L : Nat) (i v : Int32) : Nat → Int32 := if i < 0 then f else if Int32.ofNat L ≤ i then f else upd f i.toNatClampNeg v
def rwW (cI : ClassId) (a b L : Nat) (f : Nat → Int32) : va_W := [(a, .inr (4, [.ref b])), (b, .inl (cI, L, .inl f))]
def nwW (cI : ClassId) (q : Nat → Nat) (n : OS) : va_W := [(q 0, .inr (1, [.int (n.1 0), .int (n.1 1), .int (n.1 2), .int (n.1 3), .int (n.1 4), .int (n.1 5), .int (n.1 6), .int (n.1 7), .int (n.1 8), .int (n.1 9), .ref (q 1), .ref (q 2), .ref (q 3), .ref (q 4), .ref (q 5), .ref (q 6)])),
  (q 1, .inr (4, [.ref (q 7)])), (q 2, .inr (4, [.ref (q 8)])), (q 3, .inr (4, [.ref (q 9)])), (q 4, .inr (4, [.ref (q 10)])), (q 5, .inr (4, [.ref (q 11)])), (q 6, .inr (4, [.ref (q 12)])),
  (q 7, .inl (cI, 48, .inl (n.2 0))), (q 8, .inl (cI, 48, .inl (n.2 1))), (q 9, .inl (cI, 48, .inl (n.2 2))), (q 10, .inl (cI, 48, .inl (n.2 3))), (q 11, .inl (cI, 64, .inl (n.2 4))), (q 12, .inl (cI, 64, .inl (n.2 5)))]
def rtW (cI : ClassId) (t : Nat → Nat) (r : OS) : va_W := [(t 0, .inr (3, [.ref (t 1), .int (r.1 1), .int (r.1 2), .int (r.1 3), .ref (t 2)])), (t 1, .inr (4, [.ref (t 3)])), (t 2, .inr (4, [.ref (t 4)])), (t 3, .inl (cI, 16, .inl (r.2 0))), (t 4, .inl (cI, 48, .inl (r.2 1)))]
def txW (cI : ClassId) (u : Nat → Nat) (x : OS) : va_W := [(u 0, .inr (2, [.ref (u 1), .int (x.1 1), .int (x.1 2), .int (x.1 3), .int (x.1 4), .int (x.1 5)])), (u 1, .inr (4, [.ref (u 2)])), (u 2, .inl (cI, 60, .inl (x.2 0)))]
def mdW (cI : ClassId) (z : Nat → Nat) (g : OS) : va_W := [(z 0, .inr (6, [.ref (z 1), .int (g.1 1), .int (g.1 2), .ref (z 2), .int (g.1 4), .int (g.1 5), .int (g.1 6), .int (g.1 7), .int (g.1 8), .ref (z 3), .int (g.1 10), .ref (z 4)])), (z 1, .inl (cI, 1078, .inl (g.2 0))), (z 2, .inl (cI, 60, .inl (g.2 1))), (z 3, .inl (cI, 48, .inl (g.2 2))), (z 4, .inl (cI, 48, .inl (g.2 3)))]
def cxW (a a0 a1 a2 a3 a4 a5 a6 : Nat) (k : Int32) : va_W := [(a, .inr (5, [.ref a0, .ref a1, .ref a2, .ref a3, .ref a4, .ref a5, .ref a6, .int k]))]
def pickW (ws : va_W) (is : List Nat) : va_W := is.filterMap (fun i => ws[i]?)
theorem cell_ce {cA : ClassId} {n : Nat} {f g : Nat → Int32} (h : ∀ j, j < n → f j = g j) : vp_cell cA (n, .inl f) = vp_cell cA (n, .inl g) := by
  rw [vp_cell_i, vp_cell_i]
  unfold arrV
  congr 1
  apply Array.ext
  · simp
  · intro i h1 h2
    simp only [Array.getElem_ofFn]
    rw [h i (by simpa using h1)]
theorem P_ce {D : va_G} {cl : List vw_C} {ws : va_W} {H : Heap} (h : va_P D cl ws H) {k b n : Nat} {cA : ClassId} {f g : Nat → Int32} (hk : ws[k]? = some (b, .inl (cA, n, .inl f))) (hfg : ∀ j, j < n → f j = g j) : va_P D cl (ws.set k (b, .inl (cA, n, .inl g))) H := by
  intro i q hq
  have hl := (List.getElem?_eq_some_iff.mp hk).1
  by_cases hi : i = k
  · subst hi
    rw [List.getElem?_set_self hl] at hq
    cases hq
    show H[b]? = some (vp_cell _ _)
    rw [← cell_ce hfg]
    exact h i _ hk
  · rw [List.getElem?_set_ne (Ne.symm hi)] at hq
    exact h i q hq
end
section
/-! calls that write: a row in place, and blocks of a world in place -/
theorem rw_notin {cI : ClassId} {a b L : Nat} {f : Nat → Int32} {sz q : Nat} (ha : q ≠ a) (hb : q ≠ b) (hl : q < sz) : ¬ va_A (rwW cI a b L f) sz q := by
  intro h
  rcases h with ⟨k, e, h⟩ | h
  · match k, h with
    | 0, h => cases h; exact ha rfl
    | 1, h => cases h; exact hb rfl
    | k + 2, h => cases h
  · omega
theorem back_row {D : va_G} {A0 : Nat → Prop} {ws : va_W} {H H1 : Heap} {cI : ClassId} {i0 i1 a b L : Nat} {f f' : Nat → Int32} (hP : va_P D vwCl ws H) (hD : va_D A0 ws) (h0 : ws[i0]? = some (a, .inr (4, [.ref b]))) (h1 : ws[i1]? = some (b, .inl (cI, L, .inl f)))
    (hk : ∀ q : Nat, q < H.size → ¬ va_A (rwW cI a b L f) H.size q → H1[q]? = H[q]?) (hP1 : va_P D vwCl (rwW cI a b L f') H1) : va_P D vwCl (ws.set i1 (b, .inl (cI, L, .inl f'))) H1 ∧ va_D A0 (ws.set i1 (b, .inl (cI, L, .inl f'))) := by
  refine ⟨fun k q hq => ?_, hD.set h1⟩
  have hl := (List.getElem?_eq_some_iff.mp h1).1
  by_cases hki : k = i1
  · subst hki
    rw [List.getElem?_set_self hl] at hq
    cases hq
    exact hP1 1 _ rfl
  · rw [List.getElem?_set_ne (Ne.symm hki)] at hq
    by_cases hqa : q.1 = a
    · have := hD.1 k i0 q _ hq h0 hqa
      subst this
      rw [h0] at hq
      cases hq
      exact hP1 0 _ rfl
    · have hqb : q.1 ≠ b := fun e => hki (hD.1 k i1 q _ hq h1 e)
      exact (hP k q hq).kept (hk q.1 (hP k q hq).lt (rw_notin hqa hqb (hP k q hq).lt))
theorem two_sub {ws : va_W} {i0 i1 : Nat} {x y : Nat × va_E} (h0 : ws[i0]? = some x) (h1 : ws[i1]? = some y) : [i0, i1].map (fun i => ws[i]?) = [x, y].map some := by
  simp [h0, h1]
theorem D_two {A0 : Nat → Prop} {ws : va_W} {i0 i1 : Nat} {x y : Nat × va_E} (hD : va_D A0 ws) (hne : i0 ≠ i1) (h0 : ws[i0]? = some x) (h1 : ws[i1]? = some y) : va_D A0 [x, y] :=
  hD.sub [i0, i1] (by simp [va_nd, hne]) (two_sub h0 h1)
theorem P_two {D : va_G} {cl : List vw_C} {ws : va_W} {H : Heap} {i0 i1 : Nat} {x y : Nat × va_E} (hP : va_P D cl ws H) (h0 : ws[i0]? = some x) (h1 : ws[i1]? = some y) : va_P D cl [x, y] H :=
  hP.sub [i0, i1] (by simp [h0, h1])
section HR
variable {p : Program} {l : Launch} {e : Env} {R : Room} {s : State} {m : MethodId} {args : Array Value} {below : List Frame} {meth : Method} {c : Code} {H : Heap} {locs : List Loc} {cells slots : Nat} {Q : State → Prop}
variable {pc : Nat} {ls : Array Slot} {rest st0 As : List Value} {A0 : Nat → Prop} {H0 : Heap} {mc ms nL index n maxL : Nat} {D : va_G} {cI cN : ClassId} {cc bytes : ByteArray} {y : MethodName} {ret : Option FieldType} {wy Ts : List Cond} {rm : Room} {own C : String} {b : Nat} {r0 : Int32} {a0 : Nat} {ws wc wr w1 wf : va_W} {ci q0 : Nat} {fs : List Value} {T : u_T} {N : Nat}
/-- a call on a row that writes it -/
theorem cRv {a b L i0 i1 : Nat} {f f' : Nat → Int32} (S : CallFix p m c cc nL s args Ts own) (hM : CtV l D cI cN y wy rm 0 0 (.ref a :: As) (rwW cI a b L f) H.size (rwW cI a b L f')) (cw : CallW R s args own RX4 index y bytes maxL ret wy rm 0 0 n) (hK : KN D cI cN s) (hP : va_P D vwCl ws H) (hD : va_D A0 ws) (hS : va_S A0 H0 H locs) (hA : ∀ q, H0.size ≤ q → A0 q)
    (h0 : ws[i0]? = some (a, .inr (4, [.ref b]))) (h1 : ws[i1]? = some (b, .inl (cI, L, .inl f))) (hne : i0 ≠ i1) (hwf : ws.set i1 (b, .inl (cI, L, .inl f')) = wf)
    (hn : As.length = n) (hsz : ls.size = nL) (hst : st0 = As.reverse ++ .ref a :: rest) (hroom : (rest.map fun v => v.category).sum ≤ 8) (hdg : decode cc pc = .ok (.invokevirtual index, 3)) (hf : cells ≤ R.cells ∧ slots ≤ R.slots)
    (kk : ∀ (H1 : Heap) (locs1 : List Loc), va_P D vwCl wf H1 → va_D A0 wf → va_S A0 H0 H1 locs1 → W p l e R s m args below meth c H1 locs1 cells slots Q (F0 m (pc + 3) ls rest)) : W p l e R s m args below meth c H locs cells slots Q (F0 m pc ls st0) := by
  subst hwf
  have hPc : va_P D vwCl (rwW cI a b L f) H := P_two hP h0 h1
  have hDc : va_D (fun _ => True) (rwW cI a b L f) := (D_two hD hne h0 h1).weaken (fun _ _ _ _ => trivial)
  have hFc := va_free (wc := rwW cI a b L f) hD hS hA [i0, i1] (two_sub h0 h1)
  refine va_callv (va_runV (As := As) (rest := rest) S hM cw ⟨blW, va_recv hK.1 hP (ci := 4) (q0 := i0) rfl h0, fun U hU hW => ⟨rfl, by rw [hU], by rw [hU]; exact hPc, hK.warm hW, hDc⟩⟩ rfl hn hsz hst (lv_room hroom) hdg hf) hS (fun q _ h => hFc q h) hFc (fun u t H1 locs1 ht hvm hw hB hz1 hk1 hS1 => ?_)
  obtain ⟨hP1, hD1⟩ := hB
  rw [ht] at hP1
  obtain ⟨g1, g2⟩ := back_row hP hD h0 h1 hk1 hP1
  exact kk H1 locs1 g1 g2 hS1
end HR
/-! blocks: (is it the callee's?, what it was, what it is) -/
abbrev BL : Type := List (Bool × va_W × va_W)
def catB : List va_W → va_W
  | [] => []
  | [b] => b
  | b :: c :: t => b ++ catB (c :: t)
def oldB (L : BL) : va_W := catB (L.map (fun b => b.2.1))
def newB (L : BL) : va_W := catB (L.map (fun b => b.2.2))
def selO (L : BL) : va_W := catB ((L.filter (fun b => b.1)).map (fun b => b.2.1))
def selN (L : BL) : va_W := catB ((L.filter (fun b => b.1)).map (fun b => b.2.2))
def okB : BL → Prop
  | [] => True
  | b :: t => b.2.2.map Prod.fst = b.2.1.map Prod.fst ∧ (b.1 = false → b.2.2 = b.2.1) ∧ okB t
theorem catB_cons (b : va_W) (t : List va_W) : ∀ x, x ∈ catB (b :: t) ↔ x ∈ b ∨ x ∈ catB t := by
  intro x
  cases t with
  | nil => simp [catB]
  | cons c t => show x ∈ b ++ catB (c :: t) ↔ _; rw [List.mem_append]
theorem catB_app (b : va_W) (t : List va_W) : catB (b :: t) = b ++ catB t := by
  cases t with
  | nil => simp [catB]
  | cons c t => rfl
theorem P_mem {D : va_G} {cl : List vw_C} {ws : va_W} {H : Heap} : va_P D cl ws H ↔ ∀ q ∈ ws, va_at D cl q H :=
  ⟨fun h q hq => by obtain ⟨i, hi⟩ := List.getElem?_of_mem hq; exact h i q hi, fun h k q hk => h q (List.mem_of_getElem? hk)⟩
theorem D_nodup {A : Nat → Prop} {ws : va_W} : va_D A ws ↔ (ws.map Prod.fst).Nodup ∧ ∀ q ∈ ws, A q.1 := by
  constructor
  · intro h
    refine ⟨?_, fun q hq => by obtain ⟨i, hi⟩ := List.getElem?_of_mem hq; exact h.2 i q hi⟩
    rw [List.nodup_iff_pairwise_ne, List.pairwise_iff_getElem]
    intro i j hi hj hij he
    have hi' : i < ws.length := by simpa using hi
    have hj' : j < ws.length := by simpa using hj
    have := h.1 i j ws[i] ws[j] (List.getElem?_eq_getElem hi') (List.getElem?_eq_getElem hj') (by simpa using he)
    omega
  · intro h
    refine ⟨fun i j p q hi hj hpq => ?_, fun k q hk => h.2 q (List.mem_of_getElem? hk)⟩
    have hi' := (List.getElem?_eq_some_iff.mp hi).1
    have hj' := (List.getElem?_eq_some_iff.mp hj).1
    have hn := List.pairwise_iff_getElem.mp (List.nodup_iff_pairwise_ne.mp h.1)
    have ei : (ws.map Prod.fst)[i]'(by simpa using hi') = p.1 := by rw [List.getElem_map, (List.getElem?_eq_some_iff.mp hi).2]
    have ej : (ws.map Prod.fst)[j]'(by simpa using hj') = q.1 := by rw [List.getElem_map, (List.getElem?_eq_some_iff.mp hj).2]
    rcases Nat.lt_trichotomy i j with hlt | he | hlt
    · exact absurd (ei.trans (hpq.trans ej.symm)) (hn i j _ _ hlt)
    · exact he
    · exact absurd (ej.trans (hpq.symm.trans ei.symm)) (hn j i _ _ hlt)
theorem sel_mem {L : BL} : ∀ q, q ∈ selO L ↔ ∃ b ∈ L, b.1 = true ∧ q ∈ b.2.1 := by
  induction L with
  | nil => intro q; simp [selO, catB]
  | cons b t ih =>
    intro q
    by_cases hb : b.1 = true
    · have : selO (b :: t) = catB (b.2.1 :: (t.filter (fun b => b.1)).map (fun b => b.2.1)) := by simp [selO, hb]
      rw [this, catB_cons]
      have ih' : q ∈ catB ((t.filter (fun b => b.1)).map (fun b => b.2.1)) ↔ ∃ b ∈ t, b.1 = true ∧ q ∈ b.2.1 := ih q
      rw [ih']
      simp [hb]
    · have : selO (b :: t) = selO t := by simp [selO, hb]
      rw [this, ih q]
      simp [hb]
theorem old_mem {L : BL} : ∀ q, q ∈ oldB L ↔ ∃ b ∈ L, q ∈ b.2.1 := by
  induction L with
  | nil => intro q; simp [oldB, catB]
  | cons b t ih =>
    intro q
    have : oldB (b :: t) = catB (b.2.1 :: t.map (fun b => b.2.1)) := rfl
    rw [this, catB_cons]
    have ih' : q ∈ catB (t.map (fun b => b.2.1)) ↔ ∃ b ∈ t, q ∈ b.2.1 := ih q
    rw [ih']
    simp
theorem new_mem {L : BL} : ∀ q, q ∈ newB L ↔ ∃ b ∈ L, q ∈ b.2.2 := by
  induction L with
  | nil => intro q; simp [newB, catB]
  | cons b t ih =>
    intro q
    have : newB (b :: t) = catB (b.2.2 :: t.map (fun b => b.2.2)) := rfl
    rw [this, catB_cons]
    have ih' : q ∈ catB (t.map (fun b => b.2.2)) ↔ ∃ b ∈ t, q ∈ b.2.2 := ih q
    rw [ih']
    simp
theorem selN_mem {L : BL} : ∀ q, q ∈ selN L ↔ ∃ b ∈ L, b.1 = true ∧ q ∈ b.2.2 := by
  induction L with
  | nil => intro q; simp [selN, catB]
  | cons b t ih =>
    intro q
    by_cases hb : b.1 = true
    · have : selN (b :: t) = catB (b.2.2 :: (t.filter (fun b => b.1)).map (fun b => b.2.2)) := by simp [selN, hb]
      rw [this, catB_cons]
      have ih' : q ∈ catB ((t.filter (fun b => b.1)).map (fun b => b.2.2)) ↔ ∃ b ∈ t, b.1 = true ∧ q ∈ b.2.2 := ih q
      rw [ih']
      simp [hb]
    · have : selN (b :: t) = selN t := by simp [selN, hb]
      rw [this, ih q]
      simp [hb]
theorem sel_sub {L : BL} : ((selO L).map Prod.fst).Sublist ((oldB L).map Prod.fst) := by
  induction L with
  | nil => simp [selO, oldB, catB]
  | cons b t ih =>
    have ho : oldB (b :: t) = b.2.1 ++ oldB t := catB_app _ _
    rw [ho, List.map_append]
    by_cases hb : b.1 = true
    · have : selO (b :: t) = b.2.1 ++ selO t := by
        have : selO (b :: t) = catB (b.2.1 :: (t.filter (fun b => b.1)).map (fun b => b.2.1)) := by simp [selO, hb]
        rw [this, catB_app]; rfl
      rw [this, List.map_append]
      exact List.Sublist.append (List.Sublist.refl _) ih
    · have : selO (b :: t) = selO t := by simp [selO, hb]
      rw [this]
      exact ih.trans (List.sublist_append_right _ _)
theorem new_addr {L : BL} (h : okB L) : (newB L).map Prod.fst = (oldB L).map Prod.fst := by
  induction L with
  | nil => rfl
  | cons b t ih =>
    have ho : oldB (b :: t) = b.2.1 ++ oldB t := catB_app _ _
    have hn : newB (b :: t) = b.2.2 ++ newB t := catB_app _ _
    rw [ho, hn, List.map_append, List.map_append, h.1, ih h.2.2]
theorem okB_mem {L : BL} (h : okB L) : ∀ b ∈ L, b.2.2.map Prod.fst = b.2.1.map Prod.fst ∧ (b.1 = false → b.2.2 = b.2.1) := by
  induction L with
  | nil => intro b hb; simp at hb
  | cons a t ih =>
    intro b hb
    rcases List.mem_cons.mp hb with rfl | hb
    · exact ⟨h.1, h.2.1⟩
    · exact ih h.2.2 b hb
theorem P_sel {D : va_G} {cl : List vw_C} {H : Heap} (L : BL) (hP : va_P D cl (oldB L) H) : va_P D cl (selO L) H := by
  rw [P_mem] at hP ⊢
  intro q hq
  obtain ⟨b, h1, _, h3⟩ := (sel_mem q).mp hq
  exact hP q ((old_mem q).mpr ⟨b, h1, h3⟩)
theorem D_sel {A : Nat → Prop} (L : BL) (hD : va_D A (oldB L)) : va_D A (selO L) := by
  rw [D_nodup] at hD ⊢
  refine ⟨hD.1.sublist sel_sub, fun q hq => ?_⟩
  obtain ⟨b, h1, _, h3⟩ := (sel_mem q).mp hq
  exact hD.2 q ((old_mem q).mpr ⟨b, h1, h3⟩)
theorem D_new {A : Nat → Prop} {L : BL} (h : okB L) (hD : va_D A (oldB L)) : va_D A (newB L) := by
  rw [D_nodup] at hD ⊢
  rw [new_addr h]
  refine ⟨hD.1, fun q hq => ?_⟩
  have : q.1 ∈ (newB L).map Prod.fst := List.mem_map_of_mem hq
  rw [new_addr h] at this
  obtain ⟨r, hr, e⟩ := List.mem_map.mp this
  rw [← e]; exact hD.2 r hr
theorem back_bl {D : va_G} {A0 : Nat → Prop} {H H1 : Heap} (L : BL) (ok : okB L) (hP : va_P D vwCl (oldB L) H) (hD : va_D A0 (oldB L)) (hk : ∀ q : Nat, q < H.size → ¬ va_A (selO L) H.size q → H1[q]? = H[q]?) (hP1 : va_P D vwCl (selN L) H1) : va_P D vwCl (newB L) H1 ∧ va_D A0 (newB L) := by
  refine ⟨?_, D_new ok hD⟩
  rw [P_mem] at hP1 ⊢
  intro q hq
  by_cases hin : q ∈ selN L
  · exact hP1 q hin
  · obtain ⟨i, hi⟩ := List.getElem?_of_mem hq
    obtain ⟨b, h1, h2⟩ := (new_mem q).mp hq
    have hb : b.1 = false := by
      by_cases hb : b.1 = true
      · exact absurd ((selN_mem q).mpr ⟨b, h1, hb, h2⟩) hin
      · simpa using hb
    have hqo : q ∈ oldB L := (old_mem q).mpr ⟨b, h1, by rw [← (okB_mem ok b h1).2 hb]; exact h2⟩
    have hlt := ((P_mem.mp hP) q hqo).lt
    refine ((P_mem.mp hP) q hqo).kept (hk q.1 hlt ?_)
    intro hA
    rcases hA with ⟨k, e, hke⟩ | hA
    · have hm : (q.1, e) ∈ selO L := List.mem_of_getElem? hke
      obtain ⟨b2, g1, g2, g3⟩ := (sel_mem _).mp hm
      -- the same address in the new world twice: once in a callee's block, once here
      have ha : q.1 ∈ b2.2.2.map Prod.fst := by rw [(okB_mem ok b2 g1).1]; exact List.mem_map_of_mem g3
      obtain ⟨r, hr, er⟩ := List.mem_map.mp ha
      have hrn : r ∈ newB L := (new_mem r).mpr ⟨b2, g1, hr⟩
      have hDn := D_new ok hD
      obtain ⟨j, hj⟩ := List.getElem?_of_mem hrn
      have := hDn.1 i j q r hi hj er.symm
      subst this
      rw [hi] at hj
      cases hj
      exact hin ((selN_mem q).mpr ⟨b2, g1, g2, hr⟩)
    · omega
section HB
variable {p : Program} {l : Launch} {e : Env} {R : Room} {s : State} {m : MethodId} {args : Array Value} {below : List Frame} {meth : Method} {c : Code} {H : Heap} {locs : List Loc} {cells slots : Nat} {Q : State → Prop}
variable {pc : Nat} {ls : Array Slot} {rest st0 As : List Value} {A0 : Nat → Prop} {H0 : Heap} {mc ms nL index n maxL : Nat} {D : va_G} {cI cN : ClassId} {cc bytes : ByteArray} {y : MethodName} {ret : Option FieldType} {wy Ts : List Cond} {rm : Room} {own C : String} {b : Nat} {r0 : Int32} {a0 : Nat} {ws wc wr w1 wf : va_W} {ci q0 : Nat} {fs : List Value} {T : u_T} {N : Nat}
theorem free_bl {A0 : Nat → Prop} {H0 H : Heap} {locs : List Loc} (L : BL) (hD : va_D A0 (oldB L)) (hS : va_S A0 H0 H locs) (hA : ∀ q, H0.size ≤ q → A0 q) : ∀ q, va_A (selO L) H.size q → A0 q := by
  intro q h
  rcases h with ⟨k, e, h⟩ | h
  · exact (D_sel L hD).2 k _ h
  · exact hA q (Nat.le_trans hS.1 h)
/-- a virtual call that writes blocks in place: an int comes -/
theorem cBi (L : BL) (ok : okB L) (S : CallFix p m c cc nL s args Ts own) (hM : CtI l D cI cN y wy rm 0 0 (.ref b :: As) (selO L) H.size r0 (selN L)) (cw : CallW R s args own C index y bytes maxL ret wy rm 0 0 n) (hK : KN D cI cN s) (hP : va_P D vwCl (oldB L) H) (hD : va_D A0 (oldB L)) (hS : va_S A0 H0 H locs) (hA : ∀ q, H0.size ≤ q → A0 q)
    (he : (oldB L)[q0]? = some (b, .inr (ci, fs))) (hc : vwCl[ci]? = some (C, T, N)) (hn : As.length = n) (hsz : ls.size = nL) (hst : st0 = As.reverse ++ .ref b :: rest) (hroom : (rest.map fun v => v.category).sum ≤ 8) (hdg : decode cc pc = .ok (.invokevirtual index, 3)) (hf : cells ≤ R.cells ∧ slots ≤ R.slots)
    (kk : ∀ (H1 : Heap) (locs1 : List Loc), va_P D vwCl (newB L) H1 → va_D A0 (newB L) → va_S A0 H0 H1 locs1 → W p l e R s m args below meth c H1 locs1 cells slots Q (F0 m (pc + 3) ls (.int r0 :: rest))) : W p l e R s m args below meth c H locs cells slots Q (F0 m pc ls st0) := by
  have hPc := P_sel L hP
  have hDc : va_D (fun _ => True) (selO L) := (D_sel L hD).weaken (fun _ _ _ _ => trivial)
  have hFc := free_bl L hD hS hA
  refine va_calli (va_runV (As := As) (rest := rest) S hM cw ⟨blW, va_recv hK.1 hP hc he, fun U hU hW => ⟨rfl, by rw [hU], by rw [hU]; exact hPc, hK.warm hW, hDc⟩⟩ rfl hn hsz hst (lv_room hroom) hdg hf) hS (fun q _ h => hFc q h) hFc (fun r u t H1 locs1 ht hvm hw hB hz1 hk1 hS1 => ?_)
  subst hw
  obtain ⟨hP1, hD1⟩ := hB
  rw [ht] at hP1
  obtain ⟨h1, h2⟩ := back_bl L ok hP hD hk1 hP1
  exact kk H1 locs1 h1 h2 hS1
theorem cBv (L : BL) (ok : okB L) (S : CallFix p m c cc nL s args Ts own) (hM : CtV l D cI cN y wy rm 0 0 (.ref b :: As) (selO L) H.size (selN L)) (cw : CallW R s args own C index y bytes maxL ret wy rm 0 0 n) (hK : KN D cI cN s) (hP : va_P D vwCl (oldB L) H) (hD : va_D A0 (oldB L)) (hS : va_S A0 H0 H locs) (hA : ∀ q, H0.size ≤ q → A0 q)
    (he : (oldB L)[q0]? = some (b, .inr (ci, fs))) (hc : vwCl[ci]? = some (C, T, N)) (hn : As.length = n) (hsz : ls.size = nL) (hst : st0 = As.reverse ++ .ref b :: rest) (hroom : (rest.map fun v => v.category).sum ≤ 8) (hdg : decode cc pc = .ok (.invokevirtual index, 3)) (hf : cells ≤ R.cells ∧ slots ≤ R.slots)
    (kk : ∀ (H1 : Heap) (locs1 : List Loc), va_P D vwCl (newB L) H1 → va_D A0 (newB L) → va_S A0 H0 H1 locs1 → W p l e R s m args below meth c H1 locs1 cells slots Q (F0 m (pc + 3) ls rest)) : W p l e R s m args below meth c H locs cells slots Q (F0 m pc ls st0) := by
  have hPc := P_sel L hP
  have hDc : va_D (fun _ => True) (selO L) := (D_sel L hD).weaken (fun _ _ _ _ => trivial)
  have hFc := free_bl L hD hS hA
  refine va_callv (va_runV (As := As) (rest := rest) S hM cw ⟨blW, va_recv hK.1 hP hc he, fun U hU hW => ⟨rfl, by rw [hU], by rw [hU]; exact hPc, hK.warm hW, hDc⟩⟩ rfl hn hsz hst (lv_room hroom) hdg hf) hS (fun q _ h => hFc q h) hFc (fun u t H1 locs1 ht hvm hw hB hz1 hk1 hS1 => ?_)
  obtain ⟨hP1, hD1⟩ := hB
  rw [ht] at hP1
  obtain ⟨h1, h2⟩ := back_bl L ok hP hD hk1 hP1
  exact kk H1 locs1 h1 h2 hS1
/-- a virtual call that only reads: the callee's world given as proved -/
theorem cQi (S : CallFix p m c cc nL s args Ts own) (hM : CtP l D cI cN y wy rm (.ref b :: As) wc H.size r0) (cw : CallW R s args own C index y bytes maxL ret wy rm 0 0 n) (hK : KN D cI cN s) (hP : va_P D vwCl ws H) (hS : va_S A0 H0 H locs) (hA : ∀ q, H0.size ≤ q → A0 q)
    (hPc : va_P D vwCl wc H) (he : ws[q0]? = some (b, .inr (ci, fs))) (hc : vwCl[ci]? = some (C, T, N)) (hn : As.length = n) (hsz : ls.size = nL) (hst : st0 = As.reverse ++ .ref b :: rest) (hroom : (rest.map fun v => v.category).sum ≤ 8) (hdg : decode cc pc = .ok (.invokevirtual index, 3)) (hf : cells ≤ R.cells ∧ slots ≤ R.slots)
    (kk : ∀ (H1 : Heap) (locs1 : List Loc), va_P D vwCl ws H1 → va_S A0 H0 H1 locs1 → W p l e R s m args below meth c H1 locs1 cells slots Q (F0 m (pc + 3) ls (.int r0 :: rest))) : W p l e R s m args below meth c H locs cells slots Q (F0 m pc ls st0) := by
  refine va_calli (va_runV (As := As) (rest := rest) S hM cw ⟨blP, va_recv hK.1 hP hc he, fun U hU hW => ⟨rfl, by rw [hU], by rw [hU]; exact hPc, hK.warm hW⟩⟩ rfl hn hsz hst (lv_room hroom) hdg hf) hS (fun q _ h => hA q (Nat.le_trans hS.1 h)) (fun q h => hA q (Nat.le_trans hS.1 h)) (fun r u t H1 locs1 ht hvm hw hB hz1 hk1 hS1 => ?_)
  subst hw
  exact kk H1 locs1 (nw_keep hP hk1) hS1
end HB
theorem ad_net {cI : ClassId} {q : Nat → Nat} {n n' : OS} : (nwW cI q n').map Prod.fst = (nwW cI q n).map Prod.fst := rfl
theorem ad_rtr {cI : ClassId} {q : Nat → Nat} {n n' : OS} : (rtW cI q n').map Prod.fst = (rtW cI q n).map Prod.fst := rfl
theorem ad_txt {cI : ClassId} {q : Nat → Nat} {n n' : OS} : (txW cI q n').map Prod.fst = (txW cI q n).map Prod.fst := rfl
theorem ad_mod {cI : ClassId} {q : Nat → Nat} {n n' : OS} : (mdW cI q n').map Prod.fst = (mdW cI q n).map Prod.fst := rfl
theorem ad_cex {a a0 a1 a2 a3 a4 a5 a6 : Nat} {k k' : Int32} : (cxW a a0 a1 a2 a3 a4 a5 a6 k').map Prod.fst = (cxW a a0 a1 a2 a3 a4 a5 a6 k).map Prod.fst := rfl
theorem rw2_notin {cI : ClassId} {a b a2 b2 L : Nat} {f g : Nat → Int32} {sz q : Nat} (ha : q ≠ a) (hb : q ≠ b) (ha2 : q ≠ a2) (hb2 : q ≠ b2) (hl : q < sz) : ¬ va_A (rwW cI a b L f ++ rwW cI a2 b2 L g) sz q := by
  intro h
  rcases h with ⟨k, e, h⟩ | h
  · match k, h with
    | 0, h => cases h; exact ha rfl
    | 1, h => cases h; exact hb rfl
    | 2, h => cases h; exact ha2 rfl
    | 3, h => cases h; exact hb2 rfl
    | k + 4, h => cases h
  · omega
theorem back_row2 {D : va_G} {A0 : Nat → Prop} {ws : va_W} {H H1 : Heap} {cI : ClassId} {i0 i1 j0 j1 a b a2 b2 L : Nat} {f g : Nat → Int32} (hP : va_P D vwCl ws H) (hD : va_D A0 ws) (h0 : ws[i0]? = some (a, .inr (4, [.ref b]))) (h1 : ws[i1]? = some (b, .inl (cI, L, .inl f))) (g0 : ws[j0]? = some (a2, .inr (4, [.ref b2]))) (g1 : ws[j1]? = some (b2, .inl (cI, L, .inl g))) (hne : j1 ≠ i1)
    (hk : ∀ q : Nat, q < H.size → ¬ va_A (rwW cI a b L f ++ rwW cI a2 b2 L g) H.size q → H1[q]? = H[q]?) (hP1 : va_P D vwCl (rwW cI a b L g ++ rwW cI a2 b2 L g) H1) : va_P D vwCl (ws.set i1 (b, .inl (cI, L, .inl g))) H1 ∧ va_D A0 (ws.set i1 (b, .inl (cI, L, .inl g))) := by
  refine ⟨fun k q hq => ?_, hD.set h1⟩
  have hl := (List.getElem?_eq_some_iff.mp h1).1
  by_cases hki : k = i1
  · subst hki
    rw [List.getElem?_set_self hl] at hq
    cases hq
    exact hP1 1 _ rfl
  · rw [List.getElem?_set_ne (Ne.symm hki)] at hq
    by_cases hqa : q.1 = a
    · have := hD.1 k i0 q _ hq h0 hqa
      subst this
      rw [h0] at hq
      cases hq
      exact hP1 0 _ rfl
    by_cases hqa2 : q.1 = a2
    · have := hD.1 k j0 q _ hq g0 hqa2
      subst this
      rw [g0] at hq
      cases hq
      exact hP1 2 _ rfl
    by_cases hqb2 : q.1 = b2
    · have := hD.1 k j1 q _ hq g1 hqb2
      subst this
      rw [g1] at hq
      cases hq
      exact hP1 3 _ rfl
    · have hqb : q.1 ≠ b := fun e => hki (hD.1 k i1 q _ hq h1 e)
      exact (hP k q hq).kept (hk q.1 (hP k q hq).lt (rw2_notin hqa hqb hqa2 hqb2 (hP k q hq).lt))
theorem four_sub {ws : va_W} {i0 i1 i2 i3 : Nat} {x y z w : Nat × va_E} (h0 : ws[i0]? = some x) (h1 : ws[i1]? = some y) (h2 : ws[i2]? = some z) (h3 : ws[i3]? = some w) : [i0, i1, i2, i3].map (fun i => ws[i]?) = [x, y, z, w].map some := by
  simp [h0, h1, h2, h3]
section HR2
variable {p : Program} {l : Launch} {e : Env} {R : Room} {s : State} {m : MethodId} {args : Array Value} {below : List Frame} {meth : Method} {c : Code} {H : Heap} {locs : List Loc} {cells slots : Nat} {Q : State → Prop}
variable {pc : Nat} {ls : Array Slot} {rest st0 As : List Value} {A0 : Nat → Prop} {H0 : Heap} {nL index n maxL : Nat} {D : va_G} {cI cN : ClassId} {cc bytes : ByteArray} {y : MethodName} {ret : Option FieldType} {wy Ts : List Cond} {rm : Room} {own : String} {ws wf : va_W}
/-- Row.copyFrom within a world -/
theorem cRc {a b a2 b2 L i0 i1 j0 j1 : Nat} {f g : Nat → Int32} (S : CallFix p m c cc nL s args Ts own) (hM : CtV l D cI cN y wy rm 0 0 [.ref a, .ref a2] (rwW cI a b L f ++ rwW cI a2 b2 L g) H.size (rwW cI a b L g ++ rwW cI a2 b2 L g)) (cw : CallW R s args own RX4 index y bytes maxL ret wy rm 0 0 1) (hK : KN D cI cN s) (hP : va_P D vwCl ws H) (hD : va_D A0 ws) (hS : va_S A0 H0 H locs) (hA : ∀ q, H0.size ≤ q → A0 q)
    (h0 : ws[i0]? = some (a, .inr (4, [.ref b]))) (h1 : ws[i1]? = some (b, .inl (cI, L, .inl f))) (g0 : ws[j0]? = some (a2, .inr (4, [.ref b2]))) (g1 : ws[j1]? = some (b2, .inl (cI, L, .inl g))) (hnd : va_nd [i0, i1, j0, j1] = true) (hne : j1 ≠ i1) (hwf : ws.set i1 (b, .inl (cI, L, .inl g)) = wf)
    (hsz : ls.size = nL) (hst : st0 = .ref a2 :: .ref a :: rest) (hroom : (rest.map fun v => v.category).sum ≤ 8) (hdg : decode cc pc = .ok (.invokevirtual index, 3)) (hf : cells ≤ R.cells ∧ slots ≤ R.slots)
    (kk : ∀ (H1 : Heap) (locs1 : List Loc), va_P D vwCl wf H1 → va_D A0 wf → va_S A0 H0 H1 locs1 → W p l e R s m args below meth c H1 locs1 cells slots Q (F0 m (pc + 3) ls rest)) : W p l e R s m args below meth c H locs cells slots Q (F0 m pc ls st0) := by
  subst hwf
  have h4 := four_sub h0 h1 g0 g1
  have hPc : va_P D vwCl (rwW cI a b L f ++ rwW cI a2 b2 L g) H := hP.sub [i0, i1, j0, j1] (by simp [h0, h1, g0, g1]; rfl)
  have hDc : va_D (fun _ => True) (rwW cI a b L f ++ rwW cI a2 b2 L g) := (hD.sub [i0, i1, j0, j1] hnd h4).weaken (fun _ _ _ _ => trivial)
  have hFc := va_free (wc := rwW cI a b L f ++ rwW cI a2 b2 L g) hD hS hA [i0, i1, j0, j1] h4
  refine va_callv (va_runV (As := [.ref a2]) (rest := rest) S hM cw ⟨blW, va_recv hK.1 hP (ci := 4) (q0 := i0) rfl h0, fun U hU hW => ⟨rfl, by rw [hU], by rw [hU]; exact hPc, hK.warm hW, hDc⟩⟩ rfl rfl hsz hst (lv_room hroom) hdg hf) hS (fun q _ h => hFc q h) hFc (fun u t H1 locs1 ht hvm hw hB hz1 hk1 hS1 => ?_)
  obtain ⟨hP1, hD1⟩ := hB
  rw [ht] at hP1
  obtain ⟨k1, k2⟩ := back_row2 hP hD h0 h1 g0 g1 hne hk1 hP1
  exact kk H1 locs1 k1 k2 hS1
end HR2
end
