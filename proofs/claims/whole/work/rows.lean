section
-- ===== PART A: goes FIRST, ahead of the names: the tables' words, and 'selects' of the private methods out of them =====
/-- a private method of a class that the tables say can be made, by its rows of tables_1 -/
def lw_okq (q : MethodName × Nat) : Prop := (q.1.cls ≠ "java/lang/invoke/MethodHandle" ∧ q.1.cls ≠ "java/lang/invoke/VarHandle") ∧ Cond.instantiable q.1.cls q.2 ∈ tables_1 ∧ Cond.privateMethod q.1 ∈ tables_1 ∧ Cond.instanceMethod q.1 ∈ tables_1
theorem lw_p0 : lw_okq (⟨"ClosExchange$History", "latestState", "()LClosExchange$Network;"⟩, 3) := ⟨⟨by decide +kernel, by decide +kernel⟩, List.mem_of_getElem? (i := 146) (by decide +kernel), List.mem_of_getElem? (i := 233) (by decide +kernel), List.mem_of_getElem? (i := 234) (by decide +kernel)⟩
theorem lw_p1 : lw_okq (⟨"ClosExchange$Router", "findWay", "(LClosExchange$Network;II)I"⟩, 5) := ⟨⟨by decide +kernel, by decide +kernel⟩, List.mem_of_getElem? (i := 120) (by decide +kernel), List.mem_of_getElem? (i := 301) (by decide +kernel), List.mem_of_getElem? (i := 302) (by decide +kernel)⟩
theorem lw_p2 : lw_okq (⟨"ClosExchange$Router", "choose", "(LClosExchange$Network;I)I"⟩, 5) := ⟨⟨by decide +kernel, by decide +kernel⟩, List.mem_of_getElem? (i := 120) (by decide +kernel), List.mem_of_getElem? (i := 316) (by decide +kernel), List.mem_of_getElem? (i := 317) (by decide +kernel)⟩
theorem lw_p3 : lw_okq (⟨"ClosExchange$Router", "findPair", "(LClosExchange$Network;III)V"⟩, 5) := ⟨⟨by decide +kernel, by decide +kernel⟩, List.mem_of_getElem? (i := 120) (by decide +kernel), List.mem_of_getElem? (i := 327) (by decide +kernel), List.mem_of_getElem? (i := 328) (by decide +kernel)⟩
theorem lw_p4 : lw_okq (⟨"ClosExchange$Router", "follow", "(LClosExchange$Network;III)V"⟩, 5) := ⟨⟨by decide +kernel, by decide +kernel⟩, List.mem_of_getElem? (i := 120) (by decide +kernel), List.mem_of_getElem? (i := 331) (by decide +kernel), List.mem_of_getElem? (i := 332) (by decide +kernel)⟩
theorem lw_p5 : lw_okq (⟨"ClosExchange$Router", "settle", "(LClosExchange$Network;II)V"⟩, 5) := ⟨⟨by decide +kernel, by decide +kernel⟩, List.mem_of_getElem? (i := 120) (by decide +kernel), List.mem_of_getElem? (i := 346) (by decide +kernel), List.mem_of_getElem? (i := 347) (by decide +kernel)⟩
theorem lw_p6 : lw_okq (⟨"ClosExchange", "recorded", "(I)I"⟩, 8) := ⟨⟨by decide +kernel, by decide +kernel⟩, List.mem_of_getElem? (i := 13) (by decide +kernel), List.mem_of_getElem? (i := 359) (by decide +kernel), List.mem_of_getElem? (i := 360) (by decide +kernel)⟩
theorem lw_p7 : lw_okq (⟨"ClosExchange$Router", "reroute", "(LClosExchange$Network;)I"⟩, 5) := ⟨⟨by decide +kernel, by decide +kernel⟩, List.mem_of_getElem? (i := 120) (by decide +kernel), List.mem_of_getElem? (i := 388) (by decide +kernel), List.mem_of_getElem? (i := 389) (by decide +kernel)⟩
theorem lw_p8 : lw_okq (⟨"ClosExchange$Router", "countChanged", "(LClosExchange$Network;)I"⟩, 5) := ⟨⟨by decide +kernel, by decide +kernel⟩, List.mem_of_getElem? (i := 120) (by decide +kernel), List.mem_of_getElem? (i := 430) (by decide +kernel), List.mem_of_getElem? (i := 431) (by decide +kernel)⟩
theorem lw_p9 : lw_okq (⟨"ClosExchange$OrderText", "sign", "()I"⟩, 6) := ⟨⟨by decide +kernel, by decide +kernel⟩, List.mem_of_getElem? (i := 166) (by decide +kernel), List.mem_of_getElem? (i := 463) (by decide +kernel), List.mem_of_getElem? (i := 464) (by decide +kernel)⟩
theorem lw_p10 : lw_okq (⟨"ClosExchange$OrderText", "readNumber", "(I)I"⟩, 6) := ⟨⟨by decide +kernel, by decide +kernel⟩, List.mem_of_getElem? (i := 166) (by decide +kernel), List.mem_of_getElem? (i := 468) (by decide +kernel), List.mem_of_getElem? (i := 469) (by decide +kernel)⟩
theorem lw_p11 : lw_okq (⟨"ClosExchange", "obey", "()I"⟩, 8) := ⟨⟨by decide +kernel, by decide +kernel⟩, List.mem_of_getElem? (i := 13) (by decide +kernel), List.mem_of_getElem? (i := 479) (by decide +kernel), List.mem_of_getElem? (i := 480) (by decide +kernel)⟩
theorem lw_p12 : lw_okq (⟨"ClosExchangeModel", "builds", "(IIII)V"⟩, 12) := ⟨⟨by decide +kernel, by decide +kernel⟩, List.mem_of_getElem? (i := 592) (by decide +kernel), List.mem_of_getElem? (i := 598) (by decide +kernel), List.mem_of_getElem? (i := 599) (by decide +kernel)⟩
theorem lw_p13 : lw_okq (⟨"ClosExchangeModel", "lay", "(IIII)V"⟩, 12) := ⟨⟨by decide +kernel, by decide +kernel⟩, List.mem_of_getElem? (i := 592) (by decide +kernel), List.mem_of_getElem? (i := 602) (by decide +kernel), List.mem_of_getElem? (i := 603) (by decide +kernel)⟩
theorem lw_p14 : lw_okq (⟨"ClosExchangeModel", "copies", "(II)V"⟩, 12) := ⟨⟨by decide +kernel, by decide +kernel⟩, List.mem_of_getElem? (i := 592) (by decide +kernel), List.mem_of_getElem? (i := 650) (by decide +kernel), List.mem_of_getElem? (i := 651) (by decide +kernel)⟩
theorem lw_p15 : lw_okq (⟨"ClosExchangeModel", "calls", "(I)I"⟩, 12) := ⟨⟨by decide +kernel, by decide +kernel⟩, List.mem_of_getElem? (i := 592) (by decide +kernel), List.mem_of_getElem? (i := 654) (by decide +kernel), List.mem_of_getElem? (i := 655) (by decide +kernel)⟩
def lw_privs_1 : List (MethodName × Nat) := [(⟨"ClosExchange$History", "latestState", "()LClosExchange$Network;"⟩, 3), (⟨"ClosExchange$Router", "findWay", "(LClosExchange$Network;II)I"⟩, 5), (⟨"ClosExchange$Router", "choose", "(LClosExchange$Network;I)I"⟩, 5), (⟨"ClosExchange$Router", "findPair", "(LClosExchange$Network;III)V"⟩, 5), (⟨"ClosExchange$Router", "follow", "(LClosExchange$Network;III)V"⟩, 5), (⟨"ClosExchange$Router", "settle", "(LClosExchange$Network;II)V"⟩, 5), (⟨"ClosExchange", "recorded", "(I)I"⟩, 8), (⟨"ClosExchange$Router", "reroute", "(LClosExchange$Network;)I"⟩, 5), (⟨"ClosExchange$Router", "countChanged", "(LClosExchange$Network;)I"⟩, 5), (⟨"ClosExchange$OrderText", "sign", "()I"⟩, 6), (⟨"ClosExchange$OrderText", "readNumber", "(I)I"⟩, 6), (⟨"ClosExchange", "obey", "()I"⟩, 8), (⟨"ClosExchangeModel", "builds", "(IIII)V"⟩, 12), (⟨"ClosExchangeModel", "lay", "(IIII)V"⟩, 12), (⟨"ClosExchangeModel", "copies", "(II)V"⟩, 12), (⟨"ClosExchangeModel", "calls", "(I)I"⟩, 12)]
theorem lw_r1 : ∀ q ∈ lw_privs_1, lw_okq q := List.forall_mem_cons.mpr ⟨lw_p0, List.forall_mem_cons.mpr ⟨lw_p1, List.forall_mem_cons.mpr ⟨lw_p2, List.forall_mem_cons.mpr ⟨lw_p3, List.forall_mem_cons.mpr ⟨lw_p4, List.forall_mem_cons.mpr ⟨lw_p5, List.forall_mem_cons.mpr ⟨lw_p6, List.forall_mem_cons.mpr ⟨lw_p7, List.forall_mem_cons.mpr ⟨lw_p8, List.forall_mem_cons.mpr ⟨lw_p9, List.forall_mem_cons.mpr ⟨lw_p10, List.forall_mem_cons.mpr ⟨lw_p11, List.forall_mem_cons.mpr ⟨lw_p12, List.forall_mem_cons.mpr ⟨lw_p13, List.forall_mem_cons.mpr ⟨lw_p14, List.forall_mem_cons.mpr ⟨lw_p15, fun _ h => absurd h List.not_mem_nil⟩⟩⟩⟩⟩⟩⟩⟩⟩⟩⟩⟩⟩⟩⟩⟩
theorem lw_p16 : lw_okq (⟨"ClosExchangeModel", "lines", "(I)I"⟩, 12) := ⟨⟨by decide +kernel, by decide +kernel⟩, List.mem_of_getElem? (i := 592) (by decide +kernel), List.mem_of_getElem? (i := 658) (by decide +kernel), List.mem_of_getElem? (i := 659) (by decide +kernel)⟩
theorem lw_p17 : lw_okq (⟨"ClosExchangeModel", "of", "(III)I"⟩, 12) := ⟨⟨by decide +kernel, by decide +kernel⟩, List.mem_of_getElem? (i := 592) (by decide +kernel), List.mem_of_getElem? (i := 662) (by decide +kernel), List.mem_of_getElem? (i := 663) (by decide +kernel)⟩
theorem lw_p18 : lw_okq (⟨"ClosExchangeModel", "accepts", "(I)I"⟩, 12) := ⟨⟨by decide +kernel, by decide +kernel⟩, List.mem_of_getElem? (i := 592) (by decide +kernel), List.mem_of_getElem? (i := 666) (by decide +kernel), List.mem_of_getElem? (i := 667) (by decide +kernel)⟩
theorem lw_p19 : lw_okq (⟨"ClosExchangeModel", "rules", "(III)I"⟩, 12) := ⟨⟨by decide +kernel, by decide +kernel⟩, List.mem_of_getElem? (i := 592) (by decide +kernel), List.mem_of_getElem? (i := 674) (by decide +kernel), List.mem_of_getElem? (i := 675) (by decide +kernel)⟩
theorem lw_p20 : lw_okq (⟨"ClosExchangeModel", "connects", "(III)I"⟩, 12) := ⟨⟨by decide +kernel, by decide +kernel⟩, List.mem_of_getElem? (i := 592) (by decide +kernel), List.mem_of_getElem? (i := 686) (by decide +kernel), List.mem_of_getElem? (i := 687) (by decide +kernel)⟩
theorem lw_p21 : lw_okq (⟨"ClosExchangeModel", "isLine", "(II)Z"⟩, 12) := ⟨⟨by decide +kernel, by decide +kernel⟩, List.mem_of_getElem? (i := 592) (by decide +kernel), List.mem_of_getElem? (i := 690) (by decide +kernel), List.mem_of_getElem? (i := 691) (by decide +kernel)⟩
theorem lw_p22 : lw_okq (⟨"ClosExchangeModel", "inletTo", "(II)I"⟩, 12) := ⟨⟨by decide +kernel, by decide +kernel⟩, List.mem_of_getElem? (i := 592) (by decide +kernel), List.mem_of_getElem? (i := 694) (by decide +kernel), List.mem_of_getElem? (i := 695) (by decide +kernel)⟩
theorem lw_p23 : lw_okq (⟨"ClosExchangeModel", "routes", "(II)I"⟩, 12) := ⟨⟨by decide +kernel, by decide +kernel⟩, List.mem_of_getElem? (i := 592) (by decide +kernel), List.mem_of_getElem? (i := 698) (by decide +kernel), List.mem_of_getElem? (i := 699) (by decide +kernel)⟩
theorem lw_p24 : lw_okq (⟨"ClosExchangeModel", "freeAhead", "(II)I"⟩, 12) := ⟨⟨by decide +kernel, by decide +kernel⟩, List.mem_of_getElem? (i := 592) (by decide +kernel), List.mem_of_getElem? (i := 702) (by decide +kernel), List.mem_of_getElem? (i := 703) (by decide +kernel)⟩
theorem lw_p25 : lw_okq (⟨"ClosExchangeModel", "onFirst", "(III)I"⟩, 12) := ⟨⟨by decide +kernel, by decide +kernel⟩, List.mem_of_getElem? (i := 592) (by decide +kernel), List.mem_of_getElem? (i := 709) (by decide +kernel), List.mem_of_getElem? (i := 710) (by decide +kernel)⟩
theorem lw_p26 : lw_okq (⟨"ClosExchangeModel", "freeBehind", "(II)I"⟩, 12) := ⟨⟨by decide +kernel, by decide +kernel⟩, List.mem_of_getElem? (i := 592) (by decide +kernel), List.mem_of_getElem? (i := 713) (by decide +kernel), List.mem_of_getElem? (i := 714) (by decide +kernel)⟩
theorem lw_p27 : lw_okq (⟨"ClosExchangeModel", "onLast", "(III)I"⟩, 12) := ⟨⟨by decide +kernel, by decide +kernel⟩, List.mem_of_getElem? (i := 592) (by decide +kernel), List.mem_of_getElem? (i := 717) (by decide +kernel), List.mem_of_getElem? (i := 718) (by decide +kernel)⟩
theorem lw_p28 : lw_okq (⟨"ClosExchangeModel", "chosen", "(II)I"⟩, 12) := ⟨⟨by decide +kernel, by decide +kernel⟩, List.mem_of_getElem? (i := 592) (by decide +kernel), List.mem_of_getElem? (i := 721) (by decide +kernel), List.mem_of_getElem? (i := 722) (by decide +kernel)⟩
theorem lw_p29 : lw_okq (⟨"ClosExchangeModel", "loadOf", "(II)I"⟩, 12) := ⟨⟨by decide +kernel, by decide +kernel⟩, List.mem_of_getElem? (i := 592) (by decide +kernel), List.mem_of_getElem? (i := 728) (by decide +kernel), List.mem_of_getElem? (i := 729) (by decide +kernel)⟩
theorem lw_p30 : lw_okq (⟨"ClosExchangeModel", "pairOf", "(IIII)I"⟩, 12) := ⟨⟨by decide +kernel, by decide +kernel⟩, List.mem_of_getElem? (i := 592) (by decide +kernel), List.mem_of_getElem? (i := 732) (by decide +kernel), List.mem_of_getElem? (i := 733) (by decide +kernel)⟩
theorem lw_p31 : lw_okq (⟨"ClosExchangeModel", "lays", "(IIII)I"⟩, 12) := ⟨⟨by decide +kernel, by decide +kernel⟩, List.mem_of_getElem? (i := 592) (by decide +kernel), List.mem_of_getElem? (i := 736) (by decide +kernel), List.mem_of_getElem? (i := 737) (by decide +kernel)⟩
def lw_privs_2 : List (MethodName × Nat) := [(⟨"ClosExchangeModel", "lines", "(I)I"⟩, 12), (⟨"ClosExchangeModel", "of", "(III)I"⟩, 12), (⟨"ClosExchangeModel", "accepts", "(I)I"⟩, 12), (⟨"ClosExchangeModel", "rules", "(III)I"⟩, 12), (⟨"ClosExchangeModel", "connects", "(III)I"⟩, 12), (⟨"ClosExchangeModel", "isLine", "(II)Z"⟩, 12), (⟨"ClosExchangeModel", "inletTo", "(II)I"⟩, 12), (⟨"ClosExchangeModel", "routes", "(II)I"⟩, 12), (⟨"ClosExchangeModel", "freeAhead", "(II)I"⟩, 12), (⟨"ClosExchangeModel", "onFirst", "(III)I"⟩, 12), (⟨"ClosExchangeModel", "freeBehind", "(II)I"⟩, 12), (⟨"ClosExchangeModel", "onLast", "(III)I"⟩, 12), (⟨"ClosExchangeModel", "chosen", "(II)I"⟩, 12), (⟨"ClosExchangeModel", "loadOf", "(II)I"⟩, 12), (⟨"ClosExchangeModel", "pairOf", "(IIII)I"⟩, 12), (⟨"ClosExchangeModel", "lays", "(IIII)I"⟩, 12)]
theorem lw_r2 : ∀ q ∈ lw_privs_2, lw_okq q := List.forall_mem_cons.mpr ⟨lw_p16, List.forall_mem_cons.mpr ⟨lw_p17, List.forall_mem_cons.mpr ⟨lw_p18, List.forall_mem_cons.mpr ⟨lw_p19, List.forall_mem_cons.mpr ⟨lw_p20, List.forall_mem_cons.mpr ⟨lw_p21, List.forall_mem_cons.mpr ⟨lw_p22, List.forall_mem_cons.mpr ⟨lw_p23, List.forall_mem_cons.mpr ⟨lw_p24, List.forall_mem_cons.mpr ⟨lw_p25, List.forall_mem_cons.mpr ⟨lw_p26, List.forall_mem_cons.mpr ⟨lw_p27, List.forall_mem_cons.mpr ⟨lw_p28, List.forall_mem_cons.mpr ⟨lw_p29, List.forall_mem_cons.mpr ⟨lw_p30, List.forall_mem_cons.mpr ⟨lw_p31, fun _ h => absurd h List.not_mem_nil⟩⟩⟩⟩⟩⟩⟩⟩⟩⟩⟩⟩⟩⟩⟩⟩
theorem lw_p32 : lw_okq (⟨"ClosExchangeModel", "disconnects", "(II)I"⟩, 12) := ⟨⟨by decide +kernel, by decide +kernel⟩, List.mem_of_getElem? (i := 592) (by decide +kernel), List.mem_of_getElem? (i := 744) (by decide +kernel), List.mem_of_getElem? (i := 745) (by decide +kernel)⟩
theorem lw_p33 : lw_okq (⟨"ClosExchangeModel", "takesOut", "(II)I"⟩, 12) := ⟨⟨by decide +kernel, by decide +kernel⟩, List.mem_of_getElem? (i := 592) (by decide +kernel), List.mem_of_getElem? (i := 752) (by decide +kernel), List.mem_of_getElem? (i := 753) (by decide +kernel)⟩
theorem lw_p34 : lw_okq (⟨"ClosExchangeModel", "isMiddle", "(II)Z"⟩, 12) := ⟨⟨by decide +kernel, by decide +kernel⟩, List.mem_of_getElem? (i := 592) (by decide +kernel), List.mem_of_getElem? (i := 756) (by decide +kernel), List.mem_of_getElem? (i := 757) (by decide +kernel)⟩
theorem lw_p35 : lw_okq (⟨"ClosExchangeModel", "nextOff", "(I)I"⟩, 12) := ⟨⟨by decide +kernel, by decide +kernel⟩, List.mem_of_getElem? (i := 592) (by decide +kernel), List.mem_of_getElem? (i := 760) (by decide +kernel), List.mem_of_getElem? (i := 761) (by decide +kernel)⟩
theorem lw_p36 : lw_okq (⟨"ClosExchangeModel", "putsBack", "(II)I"⟩, 12) := ⟨⟨by decide +kernel, by decide +kernel⟩, List.mem_of_getElem? (i := 592) (by decide +kernel), List.mem_of_getElem? (i := 768) (by decide +kernel), List.mem_of_getElem? (i := 769) (by decide +kernel)⟩
theorem lw_p37 : lw_okq (⟨"ClosExchangeModel", "packs", "(I)I"⟩, 12) := ⟨⟨by decide +kernel, by decide +kernel⟩, List.mem_of_getElem? (i := 592) (by decide +kernel), List.mem_of_getElem? (i := 779) (by decide +kernel), List.mem_of_getElem? (i := 780) (by decide +kernel)⟩
theorem lw_p38 : lw_okq (⟨"ClosExchangeModel", "least", "(I)I"⟩, 12) := ⟨⟨by decide +kernel, by decide +kernel⟩, List.mem_of_getElem? (i := 592) (by decide +kernel), List.mem_of_getElem? (i := 783) (by decide +kernel), List.mem_of_getElem? (i := 784) (by decide +kernel)⟩
theorem lw_p39 : lw_okq (⟨"ClosExchangeModel", "fault", "()I"⟩, 12) := ⟨⟨by decide +kernel, by decide +kernel⟩, List.mem_of_getElem? (i := 592) (by decide +kernel), List.mem_of_getElem? (i := 799) (by decide +kernel), List.mem_of_getElem? (i := 800) (by decide +kernel)⟩
theorem lw_p40 : lw_okq (⟨"ClosExchangeModel", "reads", "()Z"⟩, 12) := ⟨⟨by decide +kernel, by decide +kernel⟩, List.mem_of_getElem? (i := 592) (by decide +kernel), List.mem_of_getElem? (i := 803) (by decide +kernel), List.mem_of_getElem? (i := 804) (by decide +kernel)⟩
theorem lw_p41 : lw_okq (⟨"ClosExchangeModel", "takes", "(I)Z"⟩, 12) := ⟨⟨by decide +kernel, by decide +kernel⟩, List.mem_of_getElem? (i := 592) (by decide +kernel), List.mem_of_getElem? (i := 807) (by decide +kernel), List.mem_of_getElem? (i := 808) (by decide +kernel)⟩
theorem lw_p42 : lw_okq (⟨"ClosExchangeModel", "isHere", "(II)Z"⟩, 12) := ⟨⟨by decide +kernel, by decide +kernel⟩, List.mem_of_getElem? (i := 592) (by decide +kernel), List.mem_of_getElem? (i := 811) (by decide +kernel), List.mem_of_getElem? (i := 812) (by decide +kernel)⟩
theorem lw_p43 : lw_okq (⟨"ClosExchangeModel", "number", "()I"⟩, 12) := ⟨⟨by decide +kernel, by decide +kernel⟩, List.mem_of_getElem? (i := 592) (by decide +kernel), List.mem_of_getElem? (i := 815) (by decide +kernel), List.mem_of_getElem? (i := 816) (by decide +kernel)⟩
theorem lw_p44 : lw_okq (⟨"ClosExchangeModel", "digit", "()I"⟩, 12) := ⟨⟨by decide +kernel, by decide +kernel⟩, List.mem_of_getElem? (i := 592) (by decide +kernel), List.mem_of_getElem? (i := 819) (by decide +kernel), List.mem_of_getElem? (i := 820) (by decide +kernel)⟩
theorem lw_p45 : lw_okq (⟨"ClosExchangeModel", "carries", "()I"⟩, 12) := ⟨⟨by decide +kernel, by decide +kernel⟩, List.mem_of_getElem? (i := 592) (by decide +kernel), List.mem_of_getElem? (i := 823) (by decide +kernel), List.mem_of_getElem? (i := 824) (by decide +kernel)⟩
theorem lw_p46 : lw_okq (⟨"ClosExchangeModel", "isBoard", "(I)Z"⟩, 12) := ⟨⟨by decide +kernel, by decide +kernel⟩, List.mem_of_getElem? (i := 592) (by decide +kernel), List.mem_of_getElem? (i := 864) (by decide +kernel), List.mem_of_getElem? (i := 865) (by decide +kernel)⟩
def lw_privs_3 : List (MethodName × Nat) := [(⟨"ClosExchangeModel", "disconnects", "(II)I"⟩, 12), (⟨"ClosExchangeModel", "takesOut", "(II)I"⟩, 12), (⟨"ClosExchangeModel", "isMiddle", "(II)Z"⟩, 12), (⟨"ClosExchangeModel", "nextOff", "(I)I"⟩, 12), (⟨"ClosExchangeModel", "putsBack", "(II)I"⟩, 12), (⟨"ClosExchangeModel", "packs", "(I)I"⟩, 12), (⟨"ClosExchangeModel", "least", "(I)I"⟩, 12), (⟨"ClosExchangeModel", "fault", "()I"⟩, 12), (⟨"ClosExchangeModel", "reads", "()Z"⟩, 12), (⟨"ClosExchangeModel", "takes", "(I)Z"⟩, 12), (⟨"ClosExchangeModel", "isHere", "(II)Z"⟩, 12), (⟨"ClosExchangeModel", "number", "()I"⟩, 12), (⟨"ClosExchangeModel", "digit", "()I"⟩, 12), (⟨"ClosExchangeModel", "carries", "()I"⟩, 12), (⟨"ClosExchangeModel", "isBoard", "(I)Z"⟩, 12)]
theorem lw_r3 : ∀ q ∈ lw_privs_3, lw_okq q := List.forall_mem_cons.mpr ⟨lw_p32, List.forall_mem_cons.mpr ⟨lw_p33, List.forall_mem_cons.mpr ⟨lw_p34, List.forall_mem_cons.mpr ⟨lw_p35, List.forall_mem_cons.mpr ⟨lw_p36, List.forall_mem_cons.mpr ⟨lw_p37, List.forall_mem_cons.mpr ⟨lw_p38, List.forall_mem_cons.mpr ⟨lw_p39, List.forall_mem_cons.mpr ⟨lw_p40, List.forall_mem_cons.mpr ⟨lw_p41, List.forall_mem_cons.mpr ⟨lw_p42, List.forall_mem_cons.mpr ⟨lw_p43, List.forall_mem_cons.mpr ⟨lw_p44, List.forall_mem_cons.mpr ⟨lw_p45, List.forall_mem_cons.mpr ⟨lw_p46, fun _ h => absurd h List.not_mem_nil⟩⟩⟩⟩⟩⟩⟩⟩⟩⟩⟩⟩⟩⟩⟩
def lw_privs : List (MethodName × Nat) := lw_privs_1 ++ (lw_privs_2 ++ (lw_privs_3))
def lw_tbl : List Cond := k2_sels lw_privs ++ tables_1
theorem lw_privs_ok : ∀ q ∈ lw_privs, lw_okq q := by
  show ∀ q ∈ lw_privs_1 ++ (lw_privs_2 ++ (lw_privs_3)), lw_okq q
  exact List.forall_mem_append.mpr ⟨lw_r1, List.forall_mem_append.mpr ⟨lw_r2, lw_r3⟩⟩
-- ===== end of PART A; then your names; then what follows =====
end
section
/-! ===== BEGIN words of one list among another's, by their places ===== -/
theorem goodIn_r {big : List Cond} (ws : List Cond) (ps : List Nat) (hp : ws = ps.filterMap (fun i => big[i]?)) (h : ws.all goodWord = true) : GoodIn big ws := by
  intro w hw
  have h1 := List.all_eq_true.mp h w hw
  rw [hp] at hw
  obtain ⟨i, -, hi⟩ := List.mem_filterMap.mp hw
  have hm : w ∈ big := by first | exact List.mem_of_getElem? hi | exact List.getElem?_mem hi
  exact ⟨hm, good_of_word h1⟩
theorem goodIn_app {big a b : List Cond} (ha : GoodIn big a) (hb : GoodIn big b) : GoodIn big (a ++ b) := fun w h => (List.mem_append.mp h).elim (ha w) (hb w)
theorem goodIn_ca {big a b : List Cond} {c : Cond} (ha : GoodIn big (c :: a)) (hb : GoodIn big b) : GoodIn big (c :: (a ++ b)) := fun w h => (List.mem_cons.mp h).elim (fun e => ha w (List.mem_cons.mpr (Or.inl e))) (fun h => (List.mem_append.mp h).elim (fun h => ha w (List.mem_cons.mpr (Or.inr h))) (hb w))
theorem goodIn_sub {big ws : List Cond} (hm : ∀ w ∈ ws, w ∈ big) (h : ws.all goodWord = true) : GoodIn big ws := fun w hw => ⟨hm w hw, good_of_word (List.all_eq_true.mp h w hw)⟩
/-! ===== END ===== -/

/-! ===== BEGIN printed: names, fields, word lists, decode rows ===== -/
def RX0 : String := "ClosExchange$History"
def TX0 : u_T := fun k => match k with
  | 0 => ("ClosExchange$History", "states", "[LClosExchange$Network;", true)
  | 1 => ("ClosExchange$History", "latest", "I", false)
  | _ => ("ClosExchange$History", "count", "I", false)
def tyX0 : Nat → FieldType := fun k => match k with
  | 0 => .array (.object "ClosExchange$Network")
  | 1 => .int
  | _ => .int
abbrev wsX00 : List Cond := u_ws RX0 TX0 3
theorem nmX0 : ∀ a, a < 3 → ∀ b, b < 3 → a ≠ b → (TX0 a).2.1 ≠ (TX0 b).2.1 := by decide +kernel
theorem tyX0_ok : ∀ k, k < 3 → parseFieldDescriptor (TX0 k).2.2.1 = some (tyX0 k) := by decide +kernel
abbrev cX0_init : ByteArray := prog_2_method_1_code
def yX0_init : MethodName := ⟨RX0, "<init>", "()V"⟩
abbrev cX0_push : ByteArray := prog_2_method_2_code
def yX0_push : MethodName := ⟨RX0, "push", "(LClosExchange$Network;)V"⟩
abbrev cX0_takeBack : ByteArray := prog_2_method_3_code
def yX0_takeBack : MethodName := ⟨RX0, "takeBack", "(LClosExchange$Network;)I"⟩
abbrev cX0_latestState : ByteArray := prog_2_method_4_code
def yX0_latestState : MethodName := ⟨RX0, "latestState", "()LClosExchange$Network;"⟩
def RX1 : String := "ClosExchange$Network"
def TX1 : u_T := fun k => match k with
  | 0 => ("ClosExchange$Network", "boards", "I", false)
  | 1 => ("ClosExchange$Network", "lines", "I", false)
  | 2 => ("ClosExchange$Network", "middles", "I", false)
  | 3 => ("ClosExchange$Network", "service", "I", false)
  | 4 => ("ClosExchange$Network", "choiceRule", "I", false)
  | 5 => ("ClosExchange$Network", "pairRule", "I", false)
  | 6 => ("ClosExchange$Network", "connected", "I", false)
  | 7 => ("ClosExchange$Network", "ended", "I", false)
  | 8 => ("ClosExchange$Network", "dropped", "I", false)
  | 9 => ("ClosExchange$Network", "moved", "I", false)
  | 10 => ("ClosExchange$Network", "numbers", "LClosExchange$Row;", true)
  | 11 => ("ClosExchange$Network", "outlets", "LClosExchange$Row;", true)
  | 12 => ("ClosExchange$Network", "vias", "LClosExchange$Row;", true)
  | 13 => ("ClosExchange$Network", "inlets", "LClosExchange$Row;", true)
  | 14 => ("ClosExchange$Network", "firstLinks", "LClosExchange$Row;", true)
  | _ => ("ClosExchange$Network", "lastLinks", "LClosExchange$Row;", true)
def tyX1 : Nat → FieldType := fun k => match k with
  | 0 => .int
  | 1 => .int
  | 2 => .int
  | 3 => .int
  | 4 => .int
  | 5 => .int
  | 6 => .int
  | 7 => .int
  | 8 => .int
  | 9 => .int
  | 10 => .object "ClosExchange$Row"
  | 11 => .object "ClosExchange$Row"
  | 12 => .object "ClosExchange$Row"
  | 13 => .object "ClosExchange$Row"
  | 14 => .object "ClosExchange$Row"
  | _ => .object "ClosExchange$Row"
abbrev wsX10 : List Cond := u_ws RX1 TX1 16
theorem nmX1 : ∀ a, a < 16 → ∀ b, b < 16 → a ≠ b → (TX1 a).2.1 ≠ (TX1 b).2.1 := by decide +kernel
theorem tyX1_ok : ∀ k, k < 16 → parseFieldDescriptor (TX1 k).2.2.1 = some (tyX1 k) := by decide +kernel
abbrev cX1_init : ByteArray := prog_3_method_1_code
def yX1_init : MethodName := ⟨RX1, "<init>", "()V"⟩
abbrev cX1_copyFrom : ByteArray := prog_3_method_2_code
def yX1_copyFrom : MethodName := ⟨RX1, "copyFrom", "(LClosExchange$Network;)V"⟩
abbrev cX1_rebuild : ByteArray := prog_3_method_3_code
def yX1_rebuild : MethodName := ⟨RX1, "rebuild", "(III)I"⟩
abbrev cX1_isLine : ByteArray := prog_3_method_4_code
def yX1_isLine : MethodName := ⟨RX1, "isLine", "(I)Z"⟩
abbrev cX1_isBoard : ByteArray := prog_3_method_5_code
def yX1_isBoard : MethodName := ⟨RX1, "isBoard", "(I)Z"⟩
abbrev cX1_isMiddle : ByteArray := prog_3_method_6_code
def yX1_isMiddle : MethodName := ⟨RX1, "isMiddle", "(I)Z"⟩
abbrev cX1_isInletBusy : ByteArray := prog_3_method_7_code
def yX1_isInletBusy : MethodName := ⟨RX1, "isInletBusy", "(I)Z"⟩
abbrev cX1_isOutletBusy : ByteArray := prog_3_method_8_code
def yX1_isOutletBusy : MethodName := ⟨RX1, "isOutletBusy", "(I)Z"⟩
abbrev cX1_boardOf : ByteArray := prog_3_method_9_code
def yX1_boardOf : MethodName := ⟨RX1, "boardOf", "(I)I"⟩
abbrev cX1_countCalls : ByteArray := prog_3_method_10_code
def yX1_countCalls : MethodName := ⟨RX1, "countCalls", "()I"⟩
abbrev cX1_findInlet : ByteArray := prog_3_method_11_code
def yX1_findInlet : MethodName := ⟨RX1, "findInlet", "(I)I"⟩
abbrev cX1_loadOf : ByteArray := prog_3_method_12_code
def yX1_loadOf : MethodName := ⟨RX1, "loadOf", "(I)I"⟩
abbrev cX1_freeOnLinks : ByteArray := prog_3_method_13_code
def yX1_freeOnLinks : MethodName := ⟨RX1, "freeOnLinks", "(LClosExchange$Row;I)I"⟩
abbrev cX1_fullestBoard : ByteArray := prog_3_method_14_code
def yX1_fullestBoard : MethodName := ⟨RX1, "fullestBoard", "()I"⟩
abbrev cX1_addCall : ByteArray := prog_3_method_15_code
def yX1_addCall : MethodName := ⟨RX1, "addCall", "(II)V"⟩
abbrev cX1_removeCall : ByteArray := prog_3_method_16_code
def yX1_removeCall : MethodName := ⟨RX1, "removeCall", "(I)V"⟩
abbrev cX1_carryCall : ByteArray := prog_3_method_17_code
def yX1_carryCall : MethodName := ⟨RX1, "carryCall", "(II)V"⟩
abbrev cX1_liftCall : ByteArray := prog_3_method_18_code
def yX1_liftCall : MethodName := ⟨RX1, "liftCall", "(I)V"⟩
abbrev cX1_firstLifted : ByteArray := prog_3_method_19_code
def yX1_firstLifted : MethodName := ⟨RX1, "firstLifted", "()I"⟩
def RX2 : String := "ClosExchange$OrderText"
def TX2 : u_T := fun k => match k with
  | 0 => ("ClosExchange$OrderText", "signs", "LClosExchange$Row;", true)
  | 1 => ("ClosExchange$OrderText", "length", "I", false)
  | 2 => ("ClosExchange$OrderText", "place", "I", false)
  | 3 => ("ClosExchange$OrderText", "kind", "I", false)
  | 4 => ("ClosExchange$OrderText", "first", "I", false)
  | _ => ("ClosExchange$OrderText", "second", "I", false)
def tyX2 : Nat → FieldType := fun k => match k with
  | 0 => .object "ClosExchange$Row"
  | 1 => .int
  | 2 => .int
  | 3 => .int
  | 4 => .int
  | _ => .int
abbrev wsX20 : List Cond := u_ws RX2 TX2 6
theorem nmX2 : ∀ a, a < 6 → ∀ b, b < 6 → a ≠ b → (TX2 a).2.1 ≠ (TX2 b).2.1 := by decide +kernel
theorem tyX2_ok : ∀ k, k < 6 → parseFieldDescriptor (TX2 k).2.2.1 = some (tyX2 k) := by decide +kernel
abbrev cX2_init : ByteArray := prog_4_method_1_code
def yX2_init : MethodName := ⟨RX2, "<init>", "()V"⟩
abbrev cX2_append : ByteArray := prog_4_method_2_code
def yX2_append : MethodName := ⟨RX2, "append", "(I)I"⟩
abbrev cX2_rewind : ByteArray := prog_4_method_3_code
def yX2_rewind : MethodName := ⟨RX2, "rewind", "()V"⟩
abbrev cX2_findFault : ByteArray := prog_4_method_4_code
def yX2_findFault : MethodName := ⟨RX2, "findFault", "()I"⟩
abbrev cX2_readOrder : ByteArray := prog_4_method_5_code
def yX2_readOrder : MethodName := ⟨RX2, "readOrder", "()Z"⟩
abbrev cX2_skip : ByteArray := prog_4_method_6_code
def yX2_skip : MethodName := ⟨RX2, "skip", "(I)Z"⟩
abbrev cX2_sign : ByteArray := prog_4_method_7_code
def yX2_sign : MethodName := ⟨RX2, "sign", "()I"⟩
abbrev cX2_readNumber : ByteArray := prog_4_method_8_code
def yX2_readNumber : MethodName := ⟨RX2, "readNumber", "(I)I"⟩
def RX3 : String := "ClosExchange$Router"
def TX3 : u_T := fun k => match k with
  | 0 => ("ClosExchange$Router", "chain", "LClosExchange$Row;", true)
  | 1 => ("ClosExchange$Router", "chainLength", "I", false)
  | 2 => ("ClosExchange$Router", "pairP", "I", false)
  | 3 => ("ClosExchange$Router", "pairQ", "I", false)
  | _ => ("ClosExchange$Router", "formerVias", "LClosExchange$Row;", true)
def tyX3 : Nat → FieldType := fun k => match k with
  | 0 => .object "ClosExchange$Row"
  | 1 => .int
  | 2 => .int
  | 3 => .int
  | _ => .object "ClosExchange$Row"
abbrev wsX30 : List Cond := u_ws RX3 TX3 5
theorem nmX3 : ∀ a, a < 5 → ∀ b, b < 5 → a ≠ b → (TX3 a).2.1 ≠ (TX3 b).2.1 := by decide +kernel
theorem tyX3_ok : ∀ k, k < 5 → parseFieldDescriptor (TX3 k).2.2.1 = some (tyX3 k) := by decide +kernel
abbrev cX3_init : ByteArray := prog_5_method_1_code
def yX3_init : MethodName := ⟨RX3, "<init>", "()V"⟩
abbrev cX3_join : ByteArray := prog_5_method_2_code
def yX3_join : MethodName := ⟨RX3, "join", "(LClosExchange$Network;II)I"⟩
abbrev cX3_part : ByteArray := prog_5_method_3_code
def yX3_part : MethodName := ⟨RX3, "part", "(LClosExchange$Network;I)I"⟩
abbrev cX3_retire : ByteArray := prog_5_method_4_code
def yX3_retire : MethodName := ⟨RX3, "retire", "(LClosExchange$Network;I)I"⟩
abbrev cX3_revive : ByteArray := prog_5_method_5_code
def yX3_revive : MethodName := ⟨RX3, "revive", "(LClosExchange$Network;I)I"⟩
abbrev cX3_repack : ByteArray := prog_5_method_6_code
def yX3_repack : MethodName := ⟨RX3, "repack", "(LClosExchange$Network;)I"⟩
abbrev cX3_tryCall : ByteArray := prog_5_method_7_code
def yX3_tryCall : MethodName := ⟨RX3, "tryCall", "(LClosExchange$Network;II)I"⟩
abbrev cX3_reroute : ByteArray := prog_5_method_8_code
def yX3_reroute : MethodName := ⟨RX3, "reroute", "(LClosExchange$Network;)I"⟩
abbrev cX3_findWay : ByteArray := prog_5_method_9_code
def yX3_findWay : MethodName := ⟨RX3, "findWay", "(LClosExchange$Network;II)I"⟩
abbrev cX3_choose : ByteArray := prog_5_method_10_code
def yX3_choose : MethodName := ⟨RX3, "choose", "(LClosExchange$Network;I)I"⟩
abbrev cX3_findPair : ByteArray := prog_5_method_11_code
def yX3_findPair : MethodName := ⟨RX3, "findPair", "(LClosExchange$Network;III)V"⟩
abbrev cX3_follow : ByteArray := prog_5_method_12_code
def yX3_follow : MethodName := ⟨RX3, "follow", "(LClosExchange$Network;III)V"⟩
abbrev cX3_settle : ByteArray := prog_5_method_13_code
def yX3_settle : MethodName := ⟨RX3, "settle", "(LClosExchange$Network;II)V"⟩
abbrev cX3_countChanged : ByteArray := prog_5_method_14_code
def yX3_countChanged : MethodName := ⟨RX3, "countChanged", "(LClosExchange$Network;)I"⟩
abbrev cX3_lowestBits : ByteArray := prog_5_method_15_code
def yX3_lowestBits : MethodName := ⟨RX3, "lowestBits", "(II)I"⟩
def RX4 : String := "ClosExchange$Row"
def TX4 : u_T := fun k => match k with
  | _ => ("ClosExchange$Row", "cells", "[I", true)
def tyX4 : Nat → FieldType := fun k => match k with
  | _ => .array .int
abbrev wsX40 : List Cond := u_ws RX4 TX4 1
theorem nmX4 : ∀ a, a < 1 → ∀ b, b < 1 → a ≠ b → (TX4 a).2.1 ≠ (TX4 b).2.1 := by decide +kernel
theorem tyX4_ok : ∀ k, k < 1 → parseFieldDescriptor (TX4 k).2.2.1 = some (tyX4 k) := by decide +kernel
abbrev cX4_init : ByteArray := prog_6_method_1_code
def yX4_init : MethodName := ⟨RX4, "<init>", "(I)V"⟩
abbrev cX4_get : ByteArray := prog_6_method_2_code
def yX4_get : MethodName := ⟨RX4, "get", "(I)I"⟩
abbrev cX4_set : ByteArray := prog_6_method_3_code
def yX4_set : MethodName := ⟨RX4, "set", "(II)V"⟩
abbrev cX4_empty : ByteArray := prog_6_method_4_code
def yX4_empty : MethodName := ⟨RX4, "empty", "()V"⟩
abbrev cX4_copyFrom : ByteArray := prog_6_method_5_code
def yX4_copyFrom : MethodName := ⟨RX4, "copyFrom", "(LClosExchange$Row;)V"⟩
def RX5 : String := "ClosExchange"
def TX5 : u_T := fun k => match k with
  | 0 => ("ClosExchange", "network", "LClosExchange$Network;", true)
  | 1 => ("ClosExchange", "before", "LClosExchange$Network;", true)
  | 2 => ("ClosExchange", "snapshot", "LClosExchange$Network;", true)
  | 3 => ("ClosExchange", "trial", "LClosExchange$Network;", true)
  | 4 => ("ClosExchange", "router", "LClosExchange$Router;", true)
  | 5 => ("ClosExchange", "history", "LClosExchange$History;", true)
  | 6 => ("ClosExchange", "text", "LClosExchange$OrderText;", true)
  | _ => ("ClosExchange", "kept", "Z", false)
def tyX5 : Nat → FieldType := fun k => match k with
  | 0 => .object "ClosExchange$Network"
  | 1 => .object "ClosExchange$Network"
  | 2 => .object "ClosExchange$Network"
  | 3 => .object "ClosExchange$Network"
  | 4 => .object "ClosExchange$Router"
  | 5 => .object "ClosExchange$History"
  | 6 => .object "ClosExchange$OrderText"
  | _ => .boolean
abbrev wsX50 : List Cond := u_ws RX5 TX5 8
theorem nmX5 : ∀ a, a < 8 → ∀ b, b < 8 → a ≠ b → (TX5 a).2.1 ≠ (TX5 b).2.1 := by decide +kernel
theorem tyX5_ok : ∀ k, k < 8 → parseFieldDescriptor (TX5 k).2.2.1 = some (tyX5 k) := by decide +kernel
abbrev cX5_init : ByteArray := prog_1_method_1_code
def yX5_init : MethodName := ⟨RX5, "<init>", "()V"⟩
abbrev cX5_setUp : ByteArray := prog_1_method_2_code
def yX5_setUp : MethodName := ⟨RX5, "setUp", "(III)I"⟩
abbrev cX5_setChoiceRule : ByteArray := prog_1_method_3_code
def yX5_setChoiceRule : MethodName := ⟨RX5, "setChoiceRule", "(I)I"⟩
abbrev cX5_setPairRule : ByteArray := prog_1_method_4_code
def yX5_setPairRule : MethodName := ⟨RX5, "setPairRule", "(I)I"⟩
abbrev cX5_connect : ByteArray := prog_1_method_5_code
def yX5_connect : MethodName := ⟨RX5, "connect", "(II)I"⟩
abbrev cX5_disconnect : ByteArray := prog_1_method_6_code
def yX5_disconnect : MethodName := ⟨RX5, "disconnect", "(I)I"⟩
abbrev cX5_takeOut : ByteArray := prog_1_method_7_code
def yX5_takeOut : MethodName := ⟨RX5, "takeOut", "(I)I"⟩
abbrev cX5_putBack : ByteArray := prog_1_method_8_code
def yX5_putBack : MethodName := ⟨RX5, "putBack", "(I)I"⟩
abbrev cX5_pack : ByteArray := prog_1_method_9_code
def yX5_pack : MethodName := ⟨RX5, "pack", "()I"⟩
abbrev cX5_type : ByteArray := prog_1_method_10_code
def yX5_type : MethodName := ⟨RX5, "type", "(C)I"⟩
abbrev cX5_clearText : ByteArray := prog_1_method_11_code
def yX5_clearText : MethodName := ⟨RX5, "clearText", "()I"⟩
abbrev cX5_perform : ByteArray := prog_1_method_12_code
def yX5_perform : MethodName := ⟨RX5, "perform", "()I"⟩
abbrev cX5_undo : ByteArray := prog_1_method_13_code
def yX5_undo : MethodName := ⟨RX5, "undo", "()I"⟩
abbrev cX5_keep : ByteArray := prog_1_method_14_code
def yX5_keep : MethodName := ⟨RX5, "keep", "()I"⟩
abbrev cX5_restore : ByteArray := prog_1_method_15_code
def yX5_restore : MethodName := ⟨RX5, "restore", "()I"⟩
abbrev cX5_callOfInlet : ByteArray := prog_1_method_16_code
def yX5_callOfInlet : MethodName := ⟨RX5, "callOfInlet", "(I)I"⟩
abbrev cX5_callOfOutlet : ByteArray := prog_1_method_17_code
def yX5_callOfOutlet : MethodName := ⟨RX5, "callOfOutlet", "(I)I"⟩
abbrev cX5_inletOf : ByteArray := prog_1_method_18_code
def yX5_inletOf : MethodName := ⟨RX5, "inletOf", "(I)I"⟩
abbrev cX5_outletOf : ByteArray := prog_1_method_19_code
def yX5_outletOf : MethodName := ⟨RX5, "outletOf", "(I)I"⟩
abbrev cX5_middleOf : ByteArray := prog_1_method_20_code
def yX5_middleOf : MethodName := ⟨RX5, "middleOf", "(I)I"⟩
abbrev cX5_onFirstLink : ByteArray := prog_1_method_21_code
def yX5_onFirstLink : MethodName := ⟨RX5, "onFirstLink", "(II)I"⟩
abbrev cX5_onLastLink : ByteArray := prog_1_method_22_code
def yX5_onLastLink : MethodName := ⟨RX5, "onLastLink", "(II)I"⟩
abbrev cX5_load : ByteArray := prog_1_method_23_code
def yX5_load : MethodName := ⟨RX5, "load", "(I)I"⟩
abbrev cX5_freeForFirst : ByteArray := prog_1_method_24_code
def yX5_freeForFirst : MethodName := ⟨RX5, "freeForFirst", "(I)I"⟩
abbrev cX5_freeForLast : ByteArray := prog_1_method_25_code
def yX5_freeForLast : MethodName := ⟨RX5, "freeForLast", "(I)I"⟩
abbrev cX5_inService : ByteArray := prog_1_method_26_code
def yX5_inService : MethodName := ⟨RX5, "inService", "()I"⟩
abbrev cX5_total : ByteArray := prog_1_method_27_code
def yX5_total : MethodName := ⟨RX5, "total", "(I)I"⟩
abbrev cX5_wouldMove : ByteArray := prog_1_method_28_code
def yX5_wouldMove : MethodName := ⟨RX5, "wouldMove", "(II)I"⟩
abbrev cX5_chainCall : ByteArray := prog_1_method_29_code
def yX5_chainCall : MethodName := ⟨RX5, "chainCall", "(III)I"⟩
abbrev cX5_reason : ByteArray := prog_1_method_30_code
def yX5_reason : MethodName := ⟨RX5, "reason", "(II)I"⟩
abbrev cX5_leastMiddles : ByteArray := prog_1_method_31_code
def yX5_leastMiddles : MethodName := ⟨RX5, "leastMiddles", "()I"⟩
abbrev cX5_wouldDrop : ByteArray := prog_1_method_32_code
def yX5_wouldDrop : MethodName := ⟨RX5, "wouldDrop", "(I)I"⟩
abbrev cX5_reachable : ByteArray := prog_1_method_33_code
def yX5_reachable : MethodName := ⟨RX5, "reachable", "(I)I"⟩
abbrev cX5_within : ByteArray := prog_1_method_34_code
def yX5_within : MethodName := ⟨RX5, "within", "(III)Z"⟩
abbrev cX5_hasBit : ByteArray := prog_1_method_35_code
def yX5_hasBit : MethodName := ⟨RX5, "hasBit", "(II)Z"⟩
abbrev cX5_link : ByteArray := prog_1_method_36_code
def yX5_link : MethodName := ⟨RX5, "link", "(II)I"⟩
abbrev cX5_recorded : ByteArray := prog_1_method_37_code
def yX5_recorded : MethodName := ⟨RX5, "recorded", "(I)I"⟩
abbrev cX5_obey : ByteArray := prog_1_method_38_code
def yX5_obey : MethodName := ⟨RX5, "obey", "()I"⟩
def RX6 : String := "ClosExchangeModel"
def TX6 : u_T := fun k => match k with
  | 0 => ("ClosExchangeModel", "s", "[I", true)
  | 1 => ("ClosExchangeModel", "states", "I", false)
  | 2 => ("ClosExchangeModel", "isKept", "Z", false)
  | 3 => ("ClosExchangeModel", "text", "[I", true)
  | 4 => ("ClosExchangeModel", "typed", "I", false)
  | 5 => ("ClosExchangeModel", "at", "I", false)
  | 6 => ("ClosExchangeModel", "order", "I", false)
  | 7 => ("ClosExchangeModel", "first", "I", false)
  | 8 => ("ClosExchangeModel", "second", "I", false)
  | 9 => ("ClosExchangeModel", "chain", "[I", true)
  | 10 => ("ClosExchangeModel", "chained", "I", false)
  | _ => ("ClosExchangeModel", "before", "[I", true)
def tyX6 : Nat → FieldType := fun k => match k with
  | 0 => .array .int
  | 1 => .int
  | 2 => .boolean
  | 3 => .array .int
  | 4 => .int
  | 5 => .int
  | 6 => .int
  | 7 => .int
  | 8 => .int
  | 9 => .array .int
  | 10 => .int
  | _ => .array .int
abbrev wsX60 : List Cond := u_ws RX6 TX6 12
theorem nmX6 : ∀ a, a < 12 → ∀ b, b < 12 → a ≠ b → (TX6 a).2.1 ≠ (TX6 b).2.1 := by decide +kernel
theorem tyX6_ok : ∀ k, k < 12 → parseFieldDescriptor (TX6 k).2.2.1 = some (tyX6 k) := by decide +kernel
abbrev cX6_init : ByteArray := prog_8_method_1_code
def yX6_init : MethodName := ⟨RX6, "<init>", "()V"⟩
abbrev cX6_in : ByteArray := prog_8_method_2_code
def yX6_in : MethodName := ⟨RX6, "in", "(III)Z"⟩
abbrev cX6_has : ByteArray := prog_8_method_3_code
def yX6_has : MethodName := ⟨RX6, "has", "(II)Z"⟩
abbrev cX6_lowest : ByteArray := prog_8_method_4_code
def yX6_lowest : MethodName := ⟨RX6, "lowest", "(I)I"⟩
abbrev cX6_bits : ByteArray := prog_8_method_5_code
def yX6_bits : MethodName := ⟨RX6, "bits", "(I)I"⟩
abbrev cX6_of : ByteArray := prog_8_method_6_code
def yX6_of : MethodName := ⟨RX6, "of", "(III)I"⟩
abbrev cX6_lay : ByteArray := prog_8_method_7_code
def yX6_lay : MethodName := ⟨RX6, "lay", "(IIII)V"⟩
abbrev cX6_lines : ByteArray := prog_8_method_8_code
def yX6_lines : MethodName := ⟨RX6, "lines", "(I)I"⟩
abbrev cX6_isLine : ByteArray := prog_8_method_9_code
def yX6_isLine : MethodName := ⟨RX6, "isLine", "(II)Z"⟩
abbrev cX6_isBoard : ByteArray := prog_8_method_10_code
def yX6_isBoard : MethodName := ⟨RX6, "isBoard", "(I)Z"⟩
abbrev cX6_isMiddle : ByteArray := prog_8_method_11_code
def yX6_isMiddle : MethodName := ⟨RX6, "isMiddle", "(II)Z"⟩
abbrev cX6_builds : ByteArray := prog_8_method_12_code
def yX6_builds : MethodName := ⟨RX6, "builds", "(IIII)V"⟩
abbrev cX6_calls : ByteArray := prog_8_method_13_code
def yX6_calls : MethodName := ⟨RX6, "calls", "(I)I"⟩
abbrev cX6_inletTo : ByteArray := prog_8_method_14_code
def yX6_inletTo : MethodName := ⟨RX6, "inletTo", "(II)I"⟩
abbrev cX6_onFirst : ByteArray := prog_8_method_15_code
def yX6_onFirst : MethodName := ⟨RX6, "onFirst", "(III)I"⟩
abbrev cX6_onLast : ByteArray := prog_8_method_16_code
def yX6_onLast : MethodName := ⟨RX6, "onLast", "(III)I"⟩
abbrev cX6_loadOf : ByteArray := prog_8_method_17_code
def yX6_loadOf : MethodName := ⟨RX6, "loadOf", "(II)I"⟩
abbrev cX6_freeAhead : ByteArray := prog_8_method_18_code
def yX6_freeAhead : MethodName := ⟨RX6, "freeAhead", "(II)I"⟩
abbrev cX6_freeBehind : ByteArray := prog_8_method_19_code
def yX6_freeBehind : MethodName := ⟨RX6, "freeBehind", "(II)I"⟩
abbrev cX6_chosen : ByteArray := prog_8_method_20_code
def yX6_chosen : MethodName := ⟨RX6, "chosen", "(II)I"⟩
abbrev cX6_lays : ByteArray := prog_8_method_21_code
def yX6_lays : MethodName := ⟨RX6, "lays", "(IIII)I"⟩
abbrev cX6_pairOf : ByteArray := prog_8_method_22_code
def yX6_pairOf : MethodName := ⟨RX6, "pairOf", "(IIII)I"⟩
abbrev cX6_routes : ByteArray := prog_8_method_23_code
def yX6_routes : MethodName := ⟨RX6, "routes", "(II)I"⟩
abbrev cX6_nextOff : ByteArray := prog_8_method_24_code
def yX6_nextOff : MethodName := ⟨RX6, "nextOff", "(I)I"⟩
abbrev cX6_connects : ByteArray := prog_8_method_25_code
def yX6_connects : MethodName := ⟨RX6, "connects", "(III)I"⟩
abbrev cX6_disconnects : ByteArray := prog_8_method_26_code
def yX6_disconnects : MethodName := ⟨RX6, "disconnects", "(II)I"⟩
abbrev cX6_takesOut : ByteArray := prog_8_method_27_code
def yX6_takesOut : MethodName := ⟨RX6, "takesOut", "(II)I"⟩
abbrev cX6_putsBack : ByteArray := prog_8_method_28_code
def yX6_putsBack : MethodName := ⟨RX6, "putsBack", "(II)I"⟩
abbrev cX6_least : ByteArray := prog_8_method_29_code
def yX6_least : MethodName := ⟨RX6, "least", "(I)I"⟩
abbrev cX6_packs : ByteArray := prog_8_method_30_code
def yX6_packs : MethodName := ⟨RX6, "packs", "(I)I"⟩
abbrev cX6_copies : ByteArray := prog_8_method_31_code
def yX6_copies : MethodName := ⟨RX6, "copies", "(II)V"⟩
abbrev cX6_accepts : ByteArray := prog_8_method_32_code
def yX6_accepts : MethodName := ⟨RX6, "accepts", "(I)I"⟩
abbrev cX6_setUp : ByteArray := prog_8_method_33_code
def yX6_setUp : MethodName := ⟨RX6, "setUp", "(III)I"⟩
abbrev cX6_rules : ByteArray := prog_8_method_34_code
def yX6_rules : MethodName := ⟨RX6, "rules", "(III)I"⟩
abbrev cX6_setChoiceRule : ByteArray := prog_8_method_35_code
def yX6_setChoiceRule : MethodName := ⟨RX6, "setChoiceRule", "(I)I"⟩
abbrev cX6_setPairRule : ByteArray := prog_8_method_36_code
def yX6_setPairRule : MethodName := ⟨RX6, "setPairRule", "(I)I"⟩
abbrev cX6_connect : ByteArray := prog_8_method_37_code
def yX6_connect : MethodName := ⟨RX6, "connect", "(II)I"⟩
abbrev cX6_disconnect : ByteArray := prog_8_method_38_code
def yX6_disconnect : MethodName := ⟨RX6, "disconnect", "(I)I"⟩
abbrev cX6_takeOut : ByteArray := prog_8_method_39_code
def yX6_takeOut : MethodName := ⟨RX6, "takeOut", "(I)I"⟩
abbrev cX6_putBack : ByteArray := prog_8_method_40_code
def yX6_putBack : MethodName := ⟨RX6, "putBack", "(I)I"⟩
abbrev cX6_pack : ByteArray := prog_8_method_41_code
def yX6_pack : MethodName := ⟨RX6, "pack", "()I"⟩
abbrev cX6_type : ByteArray := prog_8_method_42_code
def yX6_type : MethodName := ⟨RX6, "type", "(C)I"⟩
abbrev cX6_clearText : ByteArray := prog_8_method_43_code
def yX6_clearText : MethodName := ⟨RX6, "clearText", "()I"⟩
abbrev cX6_isHere : ByteArray := prog_8_method_44_code
def yX6_isHere : MethodName := ⟨RX6, "isHere", "(II)Z"⟩
abbrev cX6_takes : ByteArray := prog_8_method_45_code
def yX6_takes : MethodName := ⟨RX6, "takes", "(I)Z"⟩
abbrev cX6_number : ByteArray := prog_8_method_46_code
def yX6_number : MethodName := ⟨RX6, "number", "()I"⟩
abbrev cX6_digit : ByteArray := prog_8_method_47_code
def yX6_digit : MethodName := ⟨RX6, "digit", "()I"⟩
abbrev cX6_reads : ByteArray := prog_8_method_48_code
def yX6_reads : MethodName := ⟨RX6, "reads", "()Z"⟩
abbrev cX6_fault : ByteArray := prog_8_method_49_code
def yX6_fault : MethodName := ⟨RX6, "fault", "()I"⟩
abbrev cX6_carries : ByteArray := prog_8_method_50_code
def yX6_carries : MethodName := ⟨RX6, "carries", "()I"⟩
abbrev cX6_perform : ByteArray := prog_8_method_51_code
def yX6_perform : MethodName := ⟨RX6, "perform", "()I"⟩
abbrev cX6_undo : ByteArray := prog_8_method_52_code
def yX6_undo : MethodName := ⟨RX6, "undo", "()I"⟩
abbrev cX6_keep : ByteArray := prog_8_method_53_code
def yX6_keep : MethodName := ⟨RX6, "keep", "()I"⟩
abbrev cX6_restore : ByteArray := prog_8_method_54_code
def yX6_restore : MethodName := ⟨RX6, "restore", "()I"⟩
abbrev cX6_callOfInlet : ByteArray := prog_8_method_55_code
def yX6_callOfInlet : MethodName := ⟨RX6, "callOfInlet", "(I)I"⟩
abbrev cX6_callOfOutlet : ByteArray := prog_8_method_56_code
def yX6_callOfOutlet : MethodName := ⟨RX6, "callOfOutlet", "(I)I"⟩
abbrev cX6_inletOf : ByteArray := prog_8_method_57_code
def yX6_inletOf : MethodName := ⟨RX6, "inletOf", "(I)I"⟩
abbrev cX6_outletOf : ByteArray := prog_8_method_58_code
def yX6_outletOf : MethodName := ⟨RX6, "outletOf", "(I)I"⟩
abbrev cX6_middleOf : ByteArray := prog_8_method_59_code
def yX6_middleOf : MethodName := ⟨RX6, "middleOf", "(I)I"⟩
abbrev cX6_onFirstLink : ByteArray := prog_8_method_60_code
def yX6_onFirstLink : MethodName := ⟨RX6, "onFirstLink", "(II)I"⟩
abbrev cX6_onLastLink : ByteArray := prog_8_method_61_code
def yX6_onLastLink : MethodName := ⟨RX6, "onLastLink", "(II)I"⟩
abbrev cX6_load : ByteArray := prog_8_method_62_code
def yX6_load : MethodName := ⟨RX6, "load", "(I)I"⟩
abbrev cX6_freeForFirst : ByteArray := prog_8_method_63_code
def yX6_freeForFirst : MethodName := ⟨RX6, "freeForFirst", "(I)I"⟩
abbrev cX6_freeForLast : ByteArray := prog_8_method_64_code
def yX6_freeForLast : MethodName := ⟨RX6, "freeForLast", "(I)I"⟩
abbrev cX6_inService : ByteArray := prog_8_method_65_code
def yX6_inService : MethodName := ⟨RX6, "inService", "()I"⟩
abbrev cX6_total : ByteArray := prog_8_method_66_code
def yX6_total : MethodName := ⟨RX6, "total", "(I)I"⟩
abbrev cX6_wouldMove : ByteArray := prog_8_method_67_code
def yX6_wouldMove : MethodName := ⟨RX6, "wouldMove", "(II)I"⟩
abbrev cX6_chainCall : ByteArray := prog_8_method_68_code
def yX6_chainCall : MethodName := ⟨RX6, "chainCall", "(III)I"⟩
abbrev cX6_reason : ByteArray := prog_8_method_69_code
def yX6_reason : MethodName := ⟨RX6, "reason", "(II)I"⟩
abbrev cX6_leastMiddles : ByteArray := prog_8_method_70_code
def yX6_leastMiddles : MethodName := ⟨RX6, "leastMiddles", "()I"⟩
abbrev cX6_wouldDrop : ByteArray := prog_8_method_71_code
def yX6_wouldDrop : MethodName := ⟨RX6, "wouldDrop", "(I)I"⟩
abbrev cX6_reachable : ByteArray := prog_8_method_72_code
def yX6_reachable : MethodName := ⟨RX6, "reachable", "(I)I"⟩
def RJ6 : String := "java/lang/Integer"
def TJ6 : u_T := fun k => match k with
  | _ => ("", "", "", false)
def tyJ6 : Nat → FieldType := fun k => match k with
  | _ => .int
abbrev wsJ60 : List Cond := u_ws RJ6 TJ6 0
theorem nmJ6 : ∀ a, a < 0 → ∀ b, b < 0 → a ≠ b → (TJ6 a).2.1 ≠ (TJ6 b).2.1 := by decide +kernel
theorem tyJ6_ok : ∀ k, k < 0 → parseFieldDescriptor (TJ6 k).2.2.1 = some (tyJ6 k) := by decide +kernel
abbrev cJ6_bitCount_0f7a4 : ByteArray := prog_9_method_49_code
def yJ6_bitCount_0f7a4 : MethodName := ⟨RJ6, "bitCount", "(I)I"⟩
def RJ9 : String := "java/lang/Math"
def TJ9 : u_T := fun k => match k with
  | _ => ("", "", "", false)
def tyJ9 : Nat → FieldType := fun k => match k with
  | _ => .int
abbrev wsJ90 : List Cond := u_ws RJ9 TJ9 0
theorem nmJ9 : ∀ a, a < 0 → ∀ b, b < 0 → a ≠ b → (TJ9 a).2.1 ≠ (TJ9 b).2.1 := by decide +kernel
theorem tyJ9_ok : ∀ k, k < 0 → parseFieldDescriptor (TJ9 k).2.2.1 = some (tyJ9 k) := by decide +kernel
abbrev cJ9_max_7cf53 : ByteArray := prog_10_method_65_code
def yJ9_max_7cf53 : MethodName := ⟨RJ9, "max", "(II)I"⟩
abbrev cJ9_min_7cf53 : ByteArray := prog_10_method_69_code
def yJ9_min_7cf53 : MethodName := ⟨RJ9, "min", "(II)I"⟩
def RJ10 : String := "java/lang/System"
def TJ10 : u_T := fun k => match k with
  | _ => ("", "", "", false)
def tyJ10 : Nat → FieldType := fun k => match k with
  | _ => .int
abbrev wsJ100 : List Cond := u_ws RJ10 TJ10 0
theorem nmJ10 : ∀ a, a < 0 → ∀ b, b < 0 → a ≠ b → (TJ10 a).2.1 ≠ (TJ10 b).2.1 := by decide +kernel
theorem tyJ10_ok : ∀ k, k < 0 → parseFieldDescriptor (TJ10 k).2.2.1 = some (tyJ10 k) := by decide +kernel
def RJ7 : String := "java/util/Arrays"
def TJ7 : u_T := fun k => match k with
  | _ => ("", "", "", false)
def tyJ7 : Nat → FieldType := fun k => match k with
  | _ => .int
abbrev wsJ70 : List Cond := u_ws RJ7 TJ7 0
theorem nmJ7 : ∀ a, a < 0 → ∀ b, b < 0 → a ≠ b → (TJ7 a).2.1 ≠ (TJ7 b).2.1 := by decide +kernel
theorem tyJ7_ok : ∀ k, k < 0 → parseFieldDescriptor (TJ7 k).2.2.1 = some (tyJ7 k) := by decide +kernel
abbrev cJ7_fill_53178 : ByteArray := prog_12_method_103_code
def yJ7_fill_53178 : MethodName := ⟨RJ7, "fill", "([II)V"⟩
def RL : String := "ClosExchangeLaw"
abbrev cL_law : ByteArray := code
def yL_law : MethodName := ⟨RL, "law", "([I)Z"⟩
def wsJ7_fill_53178 : List Cond := .code yJ7_fill_53178 cJ7_fill_53178 4 none :: ([])
def wsX4_init : List Cond := .code yX4_init cX4_init 2 none :: ([.methodLink RX4 3 objectInit, .instanceMethod objectInit, .code objectInit ⟨#[0xb1]⟩ 1 none, .methodLink RX4 9 Lib.Math.max.name, .static Lib.Math.max.name, .initialized "java/lang/Math", .code Lib.Math.max.name Lib.Math.max.code 2 (some .int), .arrayClass .int, .fieldLink RX4 15 "ClosExchange$Row" "cells" "[I", .methodLink RX4 21 yJ7_fill_53178, .static yJ7_fill_53178, .initialized RJ7, .code yJ7_fill_53178 cJ7_fill_53178 4 none] ++ wsX40)
def wsX1_init_r1 : List Cond := [Cond.methodLink RX1 3 objectInit, Cond.instanceMethod objectInit, Cond.code objectInit ⟨#[0xb1]⟩ 1 none, Cond.fieldLink RX1 9 "ClosExchange$Network" "boards" "I", Cond.fieldLink RX1 15 "ClosExchange$Network" "lines" "I", Cond.fieldLink RX1 18 "ClosExchange$Network" "middles" "I", Cond.fieldLink RX1 21 "ClosExchange$Network" "service" "I", Cond.classLink RX1 24 RX4, Cond.instantiable RX4 1, Cond.initialized RX4, Cond.fieldLink RX1 29 "ClosExchange$Network" "numbers" "LClosExchange$Row;", Cond.fieldLink RX1 33 "ClosExchange$Network" "outlets" "LClosExchange$Row;", Cond.fieldLink RX1 36 "ClosExchange$Network" "vias" "LClosExchange$Row;", Cond.fieldLink RX1 39 "ClosExchange$Network" "inlets" "LClosExchange$Row;", Cond.fieldLink RX1 42 "ClosExchange$Network" "firstLinks" "LClosExchange$Row;", Cond.fieldLink RX1 45 "ClosExchange$Network" "lastLinks" "LClosExchange$Row;", Cond.methodLink RX1 26 yX4_init, Cond.instanceMethod yX4_init, Cond.code yX4_init cX4_init 2 none, Cond.methodLink RX4 3 objectInit, Cond.methodLink RX4 9 Lib.Math.max.name, Cond.static Lib.Math.max.name, Cond.initialized "java/lang/Math", Cond.code Lib.Math.max.name Lib.Math.max.code 2 (some .int)]
def wsX1_init_r2 : List Cond := [Cond.arrayClass .int, Cond.fieldLink RX4 15 "ClosExchange$Row" "cells" "[I", Cond.methodLink RX4 21 yJ7_fill_53178, Cond.static yJ7_fill_53178, Cond.initialized RJ7, Cond.code yJ7_fill_53178 cJ7_fill_53178 4 none]
def wsX1_init : List Cond := .code yX1_init cX1_init 1 none :: ((wsX1_init_r1 ++ wsX1_init_r2) ++ wsX10 ++ wsX40)
def wsX0_init_r1 : List Cond := [Cond.methodLink RX0 3 objectInit, Cond.instanceMethod objectInit, Cond.code objectInit ⟨#[0xb1]⟩ 1 none, Cond.classLink RX0 9 RX1, Cond.fieldLink RX0 11 "ClosExchange$History" "states" "[LClosExchange$Network;", Cond.instantiable RX1 16, Cond.initialized RX1, Cond.methodLink RX0 17 yX1_init, Cond.instanceMethod yX1_init, Cond.code yX1_init cX1_init 1 none, Cond.methodLink RX1 3 objectInit, Cond.fieldLink RX1 9 "ClosExchange$Network" "boards" "I", Cond.fieldLink RX1 15 "ClosExchange$Network" "lines" "I", Cond.fieldLink RX1 18 "ClosExchange$Network" "middles" "I", Cond.fieldLink RX1 21 "ClosExchange$Network" "service" "I", Cond.classLink RX1 24 RX4, Cond.instantiable RX4 1, Cond.initialized RX4, Cond.fieldLink RX1 29 "ClosExchange$Network" "numbers" "LClosExchange$Row;", Cond.fieldLink RX1 33 "ClosExchange$Network" "outlets" "LClosExchange$Row;", Cond.fieldLink RX1 36 "ClosExchange$Network" "vias" "LClosExchange$Row;", Cond.fieldLink RX1 39 "ClosExchange$Network" "inlets" "LClosExchange$Row;", Cond.fieldLink RX1 42 "ClosExchange$Network" "firstLinks" "LClosExchange$Row;", Cond.fieldLink RX1 45 "ClosExchange$Network" "lastLinks" "LClosExchange$Row;"]
def wsX0_init_r2 : List Cond := [Cond.methodLink RX1 26 yX4_init, Cond.instanceMethod yX4_init, Cond.code yX4_init cX4_init 2 none, Cond.methodLink RX4 3 objectInit, Cond.methodLink RX4 9 Lib.Math.max.name, Cond.static Lib.Math.max.name, Cond.initialized "java/lang/Math", Cond.code Lib.Math.max.name Lib.Math.max.code 2 (some .int), Cond.arrayClass .int, Cond.fieldLink RX4 15 "ClosExchange$Row" "cells" "[I", Cond.methodLink RX4 21 yJ7_fill_53178, Cond.static yJ7_fill_53178, Cond.initialized RJ7, Cond.code yJ7_fill_53178 cJ7_fill_53178 4 none]
def wsX0_init : List Cond := .code yX0_init cX0_init 2 none :: ((wsX0_init_r1 ++ wsX0_init_r2) ++ wsX00 ++ wsX10 ++ wsX40)
def wsX0_latestState : List Cond := .code yX0_latestState cX0_latestState 1 (some (.object "ClosExchange$Network")) :: ([.fieldLink RX0 18 "ClosExchange$History" "latest" "I", .fieldLink RX0 11 "ClosExchange$History" "states" "[LClosExchange$Network;"] ++ wsX00)
def wsX4_copyFrom : List Cond := .code yX4_copyFrom cX4_copyFrom 2 none :: ([.fieldLink RX4 15 "ClosExchange$Row" "cells" "[I", .methodLink RX4 27 Lib.Math.min.name, .static Lib.Math.min.name, .initialized "java/lang/Math", .code Lib.Math.min.name Lib.Math.min.code 2 (some .int), .methodLink RX4 30 arraycopyName, .native arraycopyName, .static arraycopyName, .initialized "java/lang/System"] ++ wsX40)
def wsX1_copyFrom_r1 : List Cond := [Cond.fieldLink RX1 9 "ClosExchange$Network" "boards" "I", Cond.fieldLink RX1 15 "ClosExchange$Network" "lines" "I", Cond.fieldLink RX1 18 "ClosExchange$Network" "middles" "I", Cond.fieldLink RX1 21 "ClosExchange$Network" "service" "I", Cond.fieldLink RX1 48 "ClosExchange$Network" "choiceRule" "I", Cond.fieldLink RX1 51 "ClosExchange$Network" "pairRule" "I", Cond.fieldLink RX1 54 "ClosExchange$Network" "connected" "I", Cond.fieldLink RX1 57 "ClosExchange$Network" "ended" "I", Cond.fieldLink RX1 60 "ClosExchange$Network" "dropped" "I", Cond.fieldLink RX1 63 "ClosExchange$Network" "moved" "I", Cond.fieldLink RX1 29 "ClosExchange$Network" "numbers" "LClosExchange$Row;", Cond.fieldLink RX1 33 "ClosExchange$Network" "outlets" "LClosExchange$Row;", Cond.fieldLink RX1 36 "ClosExchange$Network" "vias" "LClosExchange$Row;", Cond.fieldLink RX1 39 "ClosExchange$Network" "inlets" "LClosExchange$Row;", Cond.fieldLink RX1 42 "ClosExchange$Network" "firstLinks" "LClosExchange$Row;", Cond.fieldLink RX1 45 "ClosExchange$Network" "lastLinks" "LClosExchange$Row;", Cond.methodLink RX1 66 yX4_copyFrom, Cond.instanceMethod yX4_copyFrom, Cond.selects RX4 yX4_copyFrom yX4_copyFrom, Cond.initialized RX4, Cond.code yX4_copyFrom cX4_copyFrom 2 none, Cond.fieldLink RX4 15 "ClosExchange$Row" "cells" "[I", Cond.methodLink RX4 27 Lib.Math.min.name, Cond.static Lib.Math.min.name]
def wsX1_copyFrom_r2 : List Cond := [Cond.initialized "java/lang/Math", Cond.code Lib.Math.min.name Lib.Math.min.code 2 (some .int), Cond.methodLink RX4 30 arraycopyName, Cond.native arraycopyName, Cond.static arraycopyName, Cond.initialized "java/lang/System"]
def wsX1_copyFrom : List Cond := .code yX1_copyFrom cX1_copyFrom 2 none :: ((wsX1_copyFrom_r1 ++ wsX1_copyFrom_r2) ++ wsX10 ++ wsX40)
def wsX0_push_r1 : List Cond := [Cond.fieldLink RX0 18 "ClosExchange$History" "latest" "I", Cond.fieldLink RX0 30 "ClosExchange$History" "count" "I", Cond.methodLink RX0 33 Lib.Math.min.name, Cond.static Lib.Math.min.name, Cond.initialized "java/lang/Math", Cond.code Lib.Math.min.name Lib.Math.min.code 2 (some .int), Cond.methodLink RX0 22 yX0_latestState, Cond.instanceMethod yX0_latestState, Cond.selects RX0 yX0_latestState yX0_latestState, Cond.initialized RX0, Cond.code yX0_latestState cX0_latestState 1 (some (.object "ClosExchange$Network")), Cond.fieldLink RX0 11 "ClosExchange$History" "states" "[LClosExchange$Network;", Cond.methodLink RX0 26 yX1_copyFrom, Cond.instanceMethod yX1_copyFrom, Cond.selects RX1 yX1_copyFrom yX1_copyFrom, Cond.initialized RX1, Cond.code yX1_copyFrom cX1_copyFrom 2 none, Cond.fieldLink RX1 9 "ClosExchange$Network" "boards" "I", Cond.fieldLink RX1 15 "ClosExchange$Network" "lines" "I", Cond.fieldLink RX1 18 "ClosExchange$Network" "middles" "I", Cond.fieldLink RX1 21 "ClosExchange$Network" "service" "I", Cond.fieldLink RX1 48 "ClosExchange$Network" "choiceRule" "I", Cond.fieldLink RX1 51 "ClosExchange$Network" "pairRule" "I", Cond.fieldLink RX1 54 "ClosExchange$Network" "connected" "I"]
def wsX0_push_r2 : List Cond := [Cond.fieldLink RX1 57 "ClosExchange$Network" "ended" "I", Cond.fieldLink RX1 60 "ClosExchange$Network" "dropped" "I", Cond.fieldLink RX1 63 "ClosExchange$Network" "moved" "I", Cond.fieldLink RX1 29 "ClosExchange$Network" "numbers" "LClosExchange$Row;", Cond.fieldLink RX1 33 "ClosExchange$Network" "outlets" "LClosExchange$Row;", Cond.fieldLink RX1 36 "ClosExchange$Network" "vias" "LClosExchange$Row;", Cond.fieldLink RX1 39 "ClosExchange$Network" "inlets" "LClosExchange$Row;", Cond.fieldLink RX1 42 "ClosExchange$Network" "firstLinks" "LClosExchange$Row;", Cond.fieldLink RX1 45 "ClosExchange$Network" "lastLinks" "LClosExchange$Row;", Cond.methodLink RX1 66 yX4_copyFrom, Cond.instanceMethod yX4_copyFrom, Cond.selects RX4 yX4_copyFrom yX4_copyFrom, Cond.initialized RX4, Cond.code yX4_copyFrom cX4_copyFrom 2 none, Cond.fieldLink RX4 15 "ClosExchange$Row" "cells" "[I", Cond.methodLink RX4 27 Lib.Math.min.name, Cond.methodLink RX4 30 arraycopyName, Cond.native arraycopyName, Cond.static arraycopyName, Cond.initialized "java/lang/System"]
def wsX0_push : List Cond := .code yX0_push cX0_push 3 none :: ((wsX0_push_r1 ++ wsX0_push_r2) ++ wsX00 ++ wsX10 ++ wsX40)
def wsX0_takeBack_r1 : List Cond := [Cond.fieldLink RX0 30 "ClosExchange$History" "count" "I", Cond.fieldLink RX0 18 "ClosExchange$History" "latest" "I", Cond.methodLink RX0 22 yX0_latestState, Cond.instanceMethod yX0_latestState, Cond.selects RX0 yX0_latestState yX0_latestState, Cond.initialized RX0, Cond.code yX0_latestState cX0_latestState 1 (some (.object "ClosExchange$Network")), Cond.fieldLink RX0 11 "ClosExchange$History" "states" "[LClosExchange$Network;", Cond.methodLink RX0 26 yX1_copyFrom, Cond.instanceMethod yX1_copyFrom, Cond.selects RX1 yX1_copyFrom yX1_copyFrom, Cond.initialized RX1, Cond.code yX1_copyFrom cX1_copyFrom 2 none, Cond.fieldLink RX1 9 "ClosExchange$Network" "boards" "I", Cond.fieldLink RX1 15 "ClosExchange$Network" "lines" "I", Cond.fieldLink RX1 18 "ClosExchange$Network" "middles" "I", Cond.fieldLink RX1 21 "ClosExchange$Network" "service" "I", Cond.fieldLink RX1 48 "ClosExchange$Network" "choiceRule" "I", Cond.fieldLink RX1 51 "ClosExchange$Network" "pairRule" "I", Cond.fieldLink RX1 54 "ClosExchange$Network" "connected" "I", Cond.fieldLink RX1 57 "ClosExchange$Network" "ended" "I", Cond.fieldLink RX1 60 "ClosExchange$Network" "dropped" "I", Cond.fieldLink RX1 63 "ClosExchange$Network" "moved" "I", Cond.fieldLink RX1 29 "ClosExchange$Network" "numbers" "LClosExchange$Row;"]
def wsX0_takeBack_r2 : List Cond := [Cond.fieldLink RX1 33 "ClosExchange$Network" "outlets" "LClosExchange$Row;", Cond.fieldLink RX1 36 "ClosExchange$Network" "vias" "LClosExchange$Row;", Cond.fieldLink RX1 39 "ClosExchange$Network" "inlets" "LClosExchange$Row;", Cond.fieldLink RX1 42 "ClosExchange$Network" "firstLinks" "LClosExchange$Row;", Cond.fieldLink RX1 45 "ClosExchange$Network" "lastLinks" "LClosExchange$Row;", Cond.methodLink RX1 66 yX4_copyFrom, Cond.instanceMethod yX4_copyFrom, Cond.selects RX4 yX4_copyFrom yX4_copyFrom, Cond.initialized RX4, Cond.code yX4_copyFrom cX4_copyFrom 2 none, Cond.fieldLink RX4 15 "ClosExchange$Row" "cells" "[I", Cond.methodLink RX4 27 Lib.Math.min.name, Cond.static Lib.Math.min.name, Cond.initialized "java/lang/Math", Cond.code Lib.Math.min.name Lib.Math.min.code 2 (some .int), Cond.methodLink RX4 30 arraycopyName, Cond.native arraycopyName, Cond.static arraycopyName, Cond.initialized "java/lang/System"]
def wsX0_takeBack : List Cond := .code yX0_takeBack cX0_takeBack 3 (some .int) :: ((wsX0_takeBack_r1 ++ wsX0_takeBack_r2) ++ wsX00 ++ wsX10 ++ wsX40)
def wsX4_get : List Cond := .code yX4_get cX4_get 2 (some .int) :: ([.fieldLink RX4 15 "ClosExchange$Row" "cells" "[I"] ++ wsX40)
def wsX1_countCalls : List Cond := .code yX1_countCalls cX1_countCalls 3 (some .int) :: ([.fieldLink RX1 29 "ClosExchange$Network" "numbers" "LClosExchange$Row;", .methodLink RX1 77 yX4_get, .instanceMethod yX4_get, .selects RX4 yX4_get yX4_get, .initialized RX4, .code yX4_get cX4_get 2 (some .int), .fieldLink RX4 15 "ClosExchange$Row" "cells" "[I"] ++ wsX10 ++ wsX40)
def wsX4_empty : List Cond := .code yX4_empty cX4_empty 1 none :: ([.fieldLink RX4 15 "ClosExchange$Row" "cells" "[I", .methodLink RX4 21 yJ7_fill_53178, .static yJ7_fill_53178, .initialized RJ7, .code yJ7_fill_53178 cJ7_fill_53178 4 none] ++ wsX40)
def wsX1_rebuild_r1 : List Cond := [Cond.fieldLink RX1 57 "ClosExchange$Network" "ended" "I", Cond.fieldLink RX1 9 "ClosExchange$Network" "boards" "I", Cond.fieldLink RX1 15 "ClosExchange$Network" "lines" "I", Cond.fieldLink RX1 18 "ClosExchange$Network" "middles" "I", Cond.fieldLink RX1 21 "ClosExchange$Network" "service" "I", Cond.fieldLink RX1 29 "ClosExchange$Network" "numbers" "LClosExchange$Row;", Cond.fieldLink RX1 33 "ClosExchange$Network" "outlets" "LClosExchange$Row;", Cond.fieldLink RX1 36 "ClosExchange$Network" "vias" "LClosExchange$Row;", Cond.fieldLink RX1 39 "ClosExchange$Network" "inlets" "LClosExchange$Row;", Cond.fieldLink RX1 42 "ClosExchange$Network" "firstLinks" "LClosExchange$Row;", Cond.fieldLink RX1 45 "ClosExchange$Network" "lastLinks" "LClosExchange$Row;", Cond.methodLink RX1 70 yX1_countCalls, Cond.instanceMethod yX1_countCalls, Cond.selects RX1 yX1_countCalls yX1_countCalls, Cond.initialized RX1, Cond.code yX1_countCalls cX1_countCalls 3 (some .int), Cond.methodLink RX1 77 yX4_get, Cond.instanceMethod yX4_get, Cond.selects RX4 yX4_get yX4_get, Cond.initialized RX4, Cond.code yX4_get cX4_get 2 (some .int), Cond.fieldLink RX4 15 "ClosExchange$Row" "cells" "[I", Cond.methodLink RX1 74 yX4_empty, Cond.instanceMethod yX4_empty]
def wsX1_rebuild_r2 : List Cond := [Cond.selects RX4 yX4_empty yX4_empty, Cond.code yX4_empty cX4_empty 1 none, Cond.methodLink RX4 21 yJ7_fill_53178, Cond.static yJ7_fill_53178, Cond.initialized RJ7, Cond.code yJ7_fill_53178 cJ7_fill_53178 4 none]
def wsX1_rebuild : List Cond := .code yX1_rebuild cX1_rebuild 5 (some .int) :: ((wsX1_rebuild_r1 ++ wsX1_rebuild_r2) ++ wsX10 ++ wsX40)
def wsX1_isLine : List Cond := .code yX1_isLine cX1_isLine 2 (some .boolean) :: ([.fieldLink RX1 9 "ClosExchange$Network" "boards" "I", .fieldLink RX1 15 "ClosExchange$Network" "lines" "I"] ++ wsX10)
def wsX1_isBoard : List Cond := .code yX1_isBoard cX1_isBoard 2 (some .boolean) :: ([.fieldLink RX1 9 "ClosExchange$Network" "boards" "I"] ++ wsX10)
def wsX1_isMiddle : List Cond := .code yX1_isMiddle cX1_isMiddle 2 (some .boolean) :: ([.fieldLink RX1 18 "ClosExchange$Network" "middles" "I"] ++ wsX10)
def wsX1_isInletBusy : List Cond := .code yX1_isInletBusy cX1_isInletBusy 2 (some .boolean) :: ([.fieldLink RX1 29 "ClosExchange$Network" "numbers" "LClosExchange$Row;", .methodLink RX1 77 yX4_get, .instanceMethod yX4_get, .selects RX4 yX4_get yX4_get, .initialized RX4, .code yX4_get cX4_get 2 (some .int), .fieldLink RX4 15 "ClosExchange$Row" "cells" "[I"] ++ wsX10 ++ wsX40)
def wsX1_isOutletBusy : List Cond := .code yX1_isOutletBusy cX1_isOutletBusy 2 (some .boolean) :: ([.fieldLink RX1 39 "ClosExchange$Network" "inlets" "LClosExchange$Row;", .methodLink RX1 77 yX4_get, .instanceMethod yX4_get, .selects RX4 yX4_get yX4_get, .initialized RX4, .code yX4_get cX4_get 2 (some .int), .fieldLink RX4 15 "ClosExchange$Row" "cells" "[I"] ++ wsX10 ++ wsX40)
def wsX1_boardOf : List Cond := .code yX1_boardOf cX1_boardOf 2 (some .int) :: ([.fieldLink RX1 15 "ClosExchange$Network" "lines" "I"] ++ wsX10)
def wsX1_findInlet : List Cond := .code yX1_findInlet cX1_findInlet 3 (some .int) :: ([.fieldLink RX1 29 "ClosExchange$Network" "numbers" "LClosExchange$Row;", .methodLink RX1 77 yX4_get, .instanceMethod yX4_get, .selects RX4 yX4_get yX4_get, .initialized RX4, .code yX4_get cX4_get 2 (some .int), .fieldLink RX4 15 "ClosExchange$Row" "cells" "[I"] ++ wsX10 ++ wsX40)
def wsX5_link : List Cond := .code yX5_link cX5_link 2 (some .int) :: ([])
def wsX1_loadOf : List Cond := .code yX1_loadOf cX1_loadOf 4 (some .int) :: ([.fieldLink RX1 9 "ClosExchange$Network" "boards" "I", .fieldLink RX1 42 "ClosExchange$Network" "firstLinks" "LClosExchange$Row;", .static yX5_link, .initialized RX5, .code yX5_link cX5_link 2 (some .int), .methodLink RX1 77 yX4_get, .instanceMethod yX4_get, .selects RX4 yX4_get yX4_get, .initialized RX4, .code yX4_get cX4_get 2 (some .int), .fieldLink RX4 15 "ClosExchange$Row" "cells" "[I"] ++ wsX10 ++ wsX40)
def wsX1_freeOnLinks : List Cond := .code yX1_freeOnLinks cX1_freeOnLinks 5 (some .int) :: ([.fieldLink RX1 18 "ClosExchange$Network" "middles" "I", .fieldLink RX1 21 "ClosExchange$Network" "service" "I", .static yX5_link, .initialized RX5, .code yX5_link cX5_link 2 (some .int), .methodLink RX1 77 yX4_get, .instanceMethod yX4_get, .selects RX4 yX4_get yX4_get, .initialized RX4, .code yX4_get cX4_get 2 (some .int), .fieldLink RX4 15 "ClosExchange$Row" "cells" "[I"] ++ wsX10 ++ wsX40)
def wsX1_fullestBoard : List Cond := .code yX1_fullestBoard cX1_fullestBoard 6 (some .int) :: ([.fieldLink RX1 9 "ClosExchange$Network" "boards" "I", .fieldLink RX1 15 "ClosExchange$Network" "lines" "I", .methodLink RX1 92 Lib.Math.max.name, .static Lib.Math.max.name, .initialized "java/lang/Math", .code Lib.Math.max.name Lib.Math.max.code 2 (some .int), .methodLink RX1 85 yX1_isInletBusy, .instanceMethod yX1_isInletBusy, .selects RX1 yX1_isInletBusy yX1_isInletBusy, .initialized RX1, .code yX1_isInletBusy cX1_isInletBusy 2 (some .boolean), .fieldLink RX1 29 "ClosExchange$Network" "numbers" "LClosExchange$Row;", .methodLink RX1 77 yX4_get, .instanceMethod yX4_get, .selects RX4 yX4_get yX4_get, .initialized RX4, .code yX4_get cX4_get 2 (some .int), .fieldLink RX4 15 "ClosExchange$Row" "cells" "[I", .methodLink RX1 89 yX1_isOutletBusy, .instanceMethod yX1_isOutletBusy, .selects RX1 yX1_isOutletBusy yX1_isOutletBusy, .code yX1_isOutletBusy cX1_isOutletBusy 2 (some .boolean), .fieldLink RX1 39 "ClosExchange$Network" "inlets" "LClosExchange$Row;"] ++ wsX10 ++ wsX40)
def wsX4_set : List Cond := .code yX4_set cX4_set 3 none :: ([.fieldLink RX4 15 "ClosExchange$Row" "cells" "[I"] ++ wsX40)
def wsX1_addCall : List Cond := .code yX1_addCall cX1_addCall 3 none :: ([.fieldLink RX1 29 "ClosExchange$Network" "numbers" "LClosExchange$Row;", .fieldLink RX1 54 "ClosExchange$Network" "connected" "I", .fieldLink RX1 33 "ClosExchange$Network" "outlets" "LClosExchange$Row;", .fieldLink RX1 39 "ClosExchange$Network" "inlets" "LClosExchange$Row;", .methodLink RX1 97 yX4_set, .instanceMethod yX4_set, .selects RX4 yX4_set yX4_set, .initialized RX4, .code yX4_set cX4_set 3 none, .fieldLink RX4 15 "ClosExchange$Row" "cells" "[I"] ++ wsX10 ++ wsX40)
def wsX1_liftCall : List Cond := .code yX1_liftCall cX1_liftCall 3 none :: ([.fieldLink RX1 36 "ClosExchange$Network" "vias" "LClosExchange$Row;", .fieldLink RX1 42 "ClosExchange$Network" "firstLinks" "LClosExchange$Row;", .fieldLink RX1 45 "ClosExchange$Network" "lastLinks" "LClosExchange$Row;", .fieldLink RX1 33 "ClosExchange$Network" "outlets" "LClosExchange$Row;", .methodLink RX1 77 yX4_get, .instanceMethod yX4_get, .selects RX4 yX4_get yX4_get, .initialized RX4, .code yX4_get cX4_get 2 (some .int), .fieldLink RX4 15 "ClosExchange$Row" "cells" "[I", .methodLink RX1 104 yX1_boardOf, .instanceMethod yX1_boardOf, .selects RX1 yX1_boardOf yX1_boardOf, .initialized RX1, .code yX1_boardOf cX1_boardOf 2 (some .int), .fieldLink RX1 15 "ClosExchange$Network" "lines" "I", .static yX5_link, .initialized RX5, .code yX5_link cX5_link 2 (some .int), .methodLink RX1 97 yX4_set, .instanceMethod yX4_set, .selects RX4 yX4_set yX4_set, .code yX4_set cX4_set 3 none] ++ wsX10 ++ wsX40)
def wsX1_removeCall_r1 : List Cond := [Cond.fieldLink RX1 39 "ClosExchange$Network" "inlets" "LClosExchange$Row;", Cond.fieldLink RX1 33 "ClosExchange$Network" "outlets" "LClosExchange$Row;", Cond.fieldLink RX1 29 "ClosExchange$Network" "numbers" "LClosExchange$Row;", Cond.methodLink RX1 101 yX1_liftCall, Cond.instanceMethod yX1_liftCall, Cond.selects RX1 yX1_liftCall yX1_liftCall, Cond.initialized RX1, Cond.code yX1_liftCall cX1_liftCall 3 none, Cond.fieldLink RX1 36 "ClosExchange$Network" "vias" "LClosExchange$Row;", Cond.fieldLink RX1 42 "ClosExchange$Network" "firstLinks" "LClosExchange$Row;", Cond.fieldLink RX1 45 "ClosExchange$Network" "lastLinks" "LClosExchange$Row;", Cond.methodLink RX1 77 yX4_get, Cond.instanceMethod yX4_get, Cond.selects RX4 yX4_get yX4_get, Cond.initialized RX4, Cond.code yX4_get cX4_get 2 (some .int), Cond.fieldLink RX4 15 "ClosExchange$Row" "cells" "[I", Cond.methodLink RX1 104 yX1_boardOf, Cond.instanceMethod yX1_boardOf, Cond.selects RX1 yX1_boardOf yX1_boardOf, Cond.code yX1_boardOf cX1_boardOf 2 (some .int), Cond.fieldLink RX1 15 "ClosExchange$Network" "lines" "I", Cond.static yX5_link, Cond.initialized RX5]
def wsX1_removeCall_r2 : List Cond := [Cond.code yX5_link cX5_link 2 (some .int), Cond.methodLink RX1 97 yX4_set, Cond.instanceMethod yX4_set, Cond.selects RX4 yX4_set yX4_set, Cond.code yX4_set cX4_set 3 none]
def wsX1_removeCall : List Cond := .code yX1_removeCall cX1_removeCall 2 none :: ((wsX1_removeCall_r1 ++ wsX1_removeCall_r2) ++ wsX10 ++ wsX40)
def wsX1_carryCall : List Cond := .code yX1_carryCall cX1_carryCall 3 none :: ([.fieldLink RX1 36 "ClosExchange$Network" "vias" "LClosExchange$Row;", .fieldLink RX1 42 "ClosExchange$Network" "firstLinks" "LClosExchange$Row;", .fieldLink RX1 45 "ClosExchange$Network" "lastLinks" "LClosExchange$Row;", .fieldLink RX1 33 "ClosExchange$Network" "outlets" "LClosExchange$Row;", .methodLink RX1 97 yX4_set, .instanceMethod yX4_set, .selects RX4 yX4_set yX4_set, .initialized RX4, .code yX4_set cX4_set 3 none, .fieldLink RX4 15 "ClosExchange$Row" "cells" "[I", .methodLink RX1 104 yX1_boardOf, .instanceMethod yX1_boardOf, .selects RX1 yX1_boardOf yX1_boardOf, .initialized RX1, .code yX1_boardOf cX1_boardOf 2 (some .int), .fieldLink RX1 15 "ClosExchange$Network" "lines" "I", .static yX5_link, .initialized RX5, .code yX5_link cX5_link 2 (some .int), .methodLink RX1 77 yX4_get, .instanceMethod yX4_get, .selects RX4 yX4_get yX4_get, .code yX4_get cX4_get 2 (some .int)] ++ wsX10 ++ wsX40)
def wsX1_firstLifted : List Cond := .code yX1_firstLifted cX1_firstLifted 3 (some .int) :: ([.fieldLink RX1 36 "ClosExchange$Network" "vias" "LClosExchange$Row;", .fieldLink RX1 29 "ClosExchange$Network" "numbers" "LClosExchange$Row;", .methodLink RX1 85 yX1_isInletBusy, .instanceMethod yX1_isInletBusy, .selects RX1 yX1_isInletBusy yX1_isInletBusy, .initialized RX1, .code yX1_isInletBusy cX1_isInletBusy 2 (some .boolean), .methodLink RX1 77 yX4_get, .instanceMethod yX4_get, .selects RX4 yX4_get yX4_get, .initialized RX4, .code yX4_get cX4_get 2 (some .int), .fieldLink RX4 15 "ClosExchange$Row" "cells" "[I"] ++ wsX10 ++ wsX40)
def wsX2_init : List Cond := .code yX2_init cX2_init 1 none :: ([.methodLink RX2 3 objectInit, .instanceMethod objectInit, .code objectInit ⟨#[0xb1]⟩ 1 none, .classLink RX2 9 RX4, .instantiable RX4 1, .initialized RX4, .fieldLink RX2 14 "ClosExchange$OrderText" "signs" "LClosExchange$Row;", .methodLink RX2 11 yX4_init, .instanceMethod yX4_init, .code yX4_init cX4_init 2 none, .methodLink RX4 3 objectInit, .methodLink RX4 9 Lib.Math.max.name, .static Lib.Math.max.name, .initialized "java/lang/Math", .code Lib.Math.max.name Lib.Math.max.code 2 (some .int), .arrayClass .int, .fieldLink RX4 15 "ClosExchange$Row" "cells" "[I", .methodLink RX4 21 yJ7_fill_53178, .static yJ7_fill_53178, .initialized RJ7, .code yJ7_fill_53178 cJ7_fill_53178 4 none] ++ wsX40 ++ wsX20)
def wsX2_append : List Cond := .code yX2_append cX2_append 2 (some .int) :: ([.fieldLink RX2 20 "ClosExchange$OrderText" "length" "I", .fieldLink RX2 14 "ClosExchange$OrderText" "signs" "LClosExchange$Row;", .methodLink RX2 24 yX4_set, .instanceMethod yX4_set, .selects RX4 yX4_set yX4_set, .initialized RX4, .code yX4_set cX4_set 3 none, .fieldLink RX4 15 "ClosExchange$Row" "cells" "[I"] ++ wsX20 ++ wsX40)
def wsX2_rewind : List Cond := .code yX2_rewind cX2_rewind 1 none :: ([.fieldLink RX2 28 "ClosExchange$OrderText" "place" "I"] ++ wsX20)
def wsX2_sign : List Cond := .code yX2_sign cX2_sign 1 (some .int) :: ([.fieldLink RX2 28 "ClosExchange$OrderText" "place" "I", .fieldLink RX2 20 "ClosExchange$OrderText" "length" "I", .fieldLink RX2 14 "ClosExchange$OrderText" "signs" "LClosExchange$Row;", .methodLink RX2 59 yX4_get, .instanceMethod yX4_get, .selects RX4 yX4_get yX4_get, .initialized RX4, .code yX4_get cX4_get 2 (some .int), .fieldLink RX4 15 "ClosExchange$Row" "cells" "[I"] ++ wsX20 ++ wsX40)
def wsX2_readNumber : List Cond := .code yX2_readNumber cX2_readNumber 6 (some .int) :: ([.methodLink RX2 62 Lib.Math.max.name, .static Lib.Math.max.name, .initialized "java/lang/Math", .code Lib.Math.max.name Lib.Math.max.code 2 (some .int), .fieldLink RX2 28 "ClosExchange$OrderText" "place" "I", .methodLink RX2 42 yX2_sign, .instanceMethod yX2_sign, .selects RX2 yX2_sign yX2_sign, .initialized RX2, .code yX2_sign cX2_sign 1 (some .int), .fieldLink RX2 20 "ClosExchange$OrderText" "length" "I", .fieldLink RX2 14 "ClosExchange$OrderText" "signs" "LClosExchange$Row;", .methodLink RX2 59 yX4_get, .instanceMethod yX4_get, .selects RX4 yX4_get yX4_get, .initialized RX4, .code yX4_get cX4_get 2 (some .int), .fieldLink RX4 15 "ClosExchange$Row" "cells" "[I"] ++ wsX20 ++ wsX40)
def wsX2_skip : List Cond := .code yX2_skip cX2_skip 2 (some .boolean) :: ([.fieldLink RX2 28 "ClosExchange$OrderText" "place" "I", .methodLink RX2 42 yX2_sign, .instanceMethod yX2_sign, .selects RX2 yX2_sign yX2_sign, .initialized RX2, .code yX2_sign cX2_sign 1 (some .int), .fieldLink RX2 20 "ClosExchange$OrderText" "length" "I", .fieldLink RX2 14 "ClosExchange$OrderText" "signs" "LClosExchange$Row;", .methodLink RX2 59 yX4_get, .instanceMethod yX4_get, .selects RX4 yX4_get yX4_get, .initialized RX4, .code yX4_get cX4_get 2 (some .int), .fieldLink RX4 15 "ClosExchange$Row" "cells" "[I"] ++ wsX20 ++ wsX40)
def wsX2_readOrder_r1 : List Cond := [Cond.fieldLink RX2 46 "ClosExchange$OrderText" "kind" "I", Cond.fieldLink RX2 28 "ClosExchange$OrderText" "place" "I", Cond.fieldLink RX2 53 "ClosExchange$OrderText" "first" "I", Cond.fieldLink RX2 56 "ClosExchange$OrderText" "second" "I", Cond.methodLink RX2 42 yX2_sign, Cond.instanceMethod yX2_sign, Cond.selects RX2 yX2_sign yX2_sign, Cond.initialized RX2, Cond.code yX2_sign cX2_sign 1 (some .int), Cond.fieldLink RX2 20 "ClosExchange$OrderText" "length" "I", Cond.fieldLink RX2 14 "ClosExchange$OrderText" "signs" "LClosExchange$Row;", Cond.methodLink RX2 59 yX4_get, Cond.instanceMethod yX4_get, Cond.selects RX4 yX4_get yX4_get, Cond.initialized RX4, Cond.code yX4_get cX4_get 2 (some .int), Cond.fieldLink RX4 15 "ClosExchange$Row" "cells" "[I", Cond.methodLink RX2 49 yX2_readNumber, Cond.instanceMethod yX2_readNumber, Cond.selects RX2 yX2_readNumber yX2_readNumber, Cond.code yX2_readNumber cX2_readNumber 6 (some .int), Cond.methodLink RX2 62 Lib.Math.max.name, Cond.static Lib.Math.max.name, Cond.initialized "java/lang/Math"]
def wsX2_readOrder_r2 : List Cond := [Cond.code Lib.Math.max.name Lib.Math.max.code 2 (some .int), Cond.methodLink RX2 38 yX2_skip, Cond.instanceMethod yX2_skip, Cond.selects RX2 yX2_skip yX2_skip, Cond.code yX2_skip cX2_skip 2 (some .boolean)]
def wsX2_readOrder : List Cond := .code yX2_readOrder cX2_readOrder 1 (some .boolean) :: ((wsX2_readOrder_r1 ++ wsX2_readOrder_r2) ++ wsX20 ++ wsX40)
def wsX2_findFault_r1 : List Cond := [Cond.fieldLink RX2 28 "ClosExchange$OrderText" "place" "I", Cond.fieldLink RX2 20 "ClosExchange$OrderText" "length" "I", Cond.methodLink RX2 31 yX2_rewind, Cond.instanceMethod yX2_rewind, Cond.selects RX2 yX2_rewind yX2_rewind, Cond.initialized RX2, Cond.code yX2_rewind cX2_rewind 1 none, Cond.methodLink RX2 34 yX2_readOrder, Cond.instanceMethod yX2_readOrder, Cond.selects RX2 yX2_readOrder yX2_readOrder, Cond.code yX2_readOrder cX2_readOrder 1 (some .boolean), Cond.fieldLink RX2 46 "ClosExchange$OrderText" "kind" "I", Cond.fieldLink RX2 53 "ClosExchange$OrderText" "first" "I", Cond.fieldLink RX2 56 "ClosExchange$OrderText" "second" "I", Cond.methodLink RX2 42 yX2_sign, Cond.instanceMethod yX2_sign, Cond.selects RX2 yX2_sign yX2_sign, Cond.code yX2_sign cX2_sign 1 (some .int), Cond.fieldLink RX2 14 "ClosExchange$OrderText" "signs" "LClosExchange$Row;", Cond.methodLink RX2 59 yX4_get, Cond.instanceMethod yX4_get, Cond.selects RX4 yX4_get yX4_get, Cond.initialized RX4, Cond.code yX4_get cX4_get 2 (some .int)]
def wsX2_findFault_r2 : List Cond := [Cond.fieldLink RX4 15 "ClosExchange$Row" "cells" "[I", Cond.methodLink RX2 49 yX2_readNumber, Cond.instanceMethod yX2_readNumber, Cond.selects RX2 yX2_readNumber yX2_readNumber, Cond.code yX2_readNumber cX2_readNumber 6 (some .int), Cond.methodLink RX2 62 Lib.Math.max.name, Cond.static Lib.Math.max.name, Cond.initialized "java/lang/Math", Cond.code Lib.Math.max.name Lib.Math.max.code 2 (some .int), Cond.methodLink RX2 38 yX2_skip, Cond.instanceMethod yX2_skip, Cond.selects RX2 yX2_skip yX2_skip, Cond.code yX2_skip cX2_skip 2 (some .boolean)]
def wsX2_findFault : List Cond := .code yX2_findFault cX2_findFault 2 (some .int) :: ((wsX2_findFault_r1 ++ wsX2_findFault_r2) ++ wsX20 ++ wsX40)
def wsX3_init : List Cond := .code yX3_init cX3_init 1 none :: ([.methodLink RX3 3 objectInit, .instanceMethod objectInit, .code objectInit ⟨#[0xb1]⟩ 1 none, .classLink RX3 9 RX4, .instantiable RX4 1, .initialized RX4, .fieldLink RX3 14 "ClosExchange$Router" "chain" "LClosExchange$Row;", .fieldLink RX3 20 "ClosExchange$Router" "formerVias" "LClosExchange$Row;", .methodLink RX3 11 yX4_init, .instanceMethod yX4_init, .code yX4_init cX4_init 2 none, .methodLink RX4 3 objectInit, .methodLink RX4 9 Lib.Math.max.name, .static Lib.Math.max.name, .initialized "java/lang/Math", .code Lib.Math.max.name Lib.Math.max.code 2 (some .int), .arrayClass .int, .fieldLink RX4 15 "ClosExchange$Row" "cells" "[I", .methodLink RX4 21 yJ7_fill_53178, .static yJ7_fill_53178, .initialized RJ7, .code yJ7_fill_53178 cJ7_fill_53178 4 none] ++ wsX40 ++ wsX30)
def wsX5_hasBit : List Cond := .code yX5_hasBit cX5_hasBit 2 (some .boolean) :: ([])
def wsX3_choose : List Cond := .code yX3_choose cX3_choose 8 (some .int) :: ([.fieldLink RX3 146 "ClosExchange$Network" "choiceRule" "I", .static yX5_hasBit, .initialized RX5, .code yX5_hasBit cX5_hasBit 2 (some .boolean), .methodLink RX3 149 yX1_loadOf, .instanceMethod yX1_loadOf, .selects RX1 yX1_loadOf yX1_loadOf, .initialized RX1, .code yX1_loadOf cX1_loadOf 4 (some .int), .fieldLink RX1 9 "ClosExchange$Network" "boards" "I", .fieldLink RX1 42 "ClosExchange$Network" "firstLinks" "LClosExchange$Row;", .static yX5_link, .code yX5_link cX5_link 2 (some .int), .methodLink RX1 77 yX4_get, .instanceMethod yX4_get, .selects RX4 yX4_get yX4_get, .initialized RX4, .code yX4_get cX4_get 2 (some .int), .fieldLink RX4 15 "ClosExchange$Row" "cells" "[I"] ++ wsX10 ++ wsX40)
def wsX3_follow_r1 : List Cond := [Cond.fieldLink RX3 143 "ClosExchange$Router" "pairP" "I", Cond.fieldLink RX3 158 "ClosExchange$Router" "pairQ" "I", Cond.fieldLink RX3 119 "ClosExchange$Router" "chainLength" "I", Cond.fieldLink RX3 132 "ClosExchange$Network" "lastLinks" "LClosExchange$Row;", Cond.fieldLink RX3 125 "ClosExchange$Network" "firstLinks" "LClosExchange$Row;", Cond.fieldLink RX3 14 "ClosExchange$Router" "chain" "LClosExchange$Row;", Cond.fieldLink RX3 113 "ClosExchange$Network" "outlets" "LClosExchange$Row;", Cond.static yX5_link, Cond.initialized RX5, Cond.code yX5_link cX5_link 2 (some .int), Cond.methodLink RX3 47 yX4_get, Cond.instanceMethod yX4_get, Cond.selects RX4 yX4_get yX4_get, Cond.initialized RX4, Cond.code yX4_get cX4_get 2 (some .int), Cond.fieldLink RX4 15 "ClosExchange$Row" "cells" "[I", Cond.methodLink RX3 164 yX4_set, Cond.instanceMethod yX4_set, Cond.selects RX4 yX4_set yX4_set, Cond.code yX4_set cX4_set 3 none, Cond.methodLink RX3 122 yX1_boardOf, Cond.instanceMethod yX1_boardOf, Cond.selects RX1 yX1_boardOf yX1_boardOf, Cond.initialized RX1]
def wsX3_follow_r2 : List Cond := [Cond.code yX1_boardOf cX1_boardOf 2 (some .int), Cond.fieldLink RX1 15 "ClosExchange$Network" "lines" "I"]
def wsX3_follow : List Cond := .code yX3_follow cX3_follow 9 none :: ((wsX3_follow_r1 ++ wsX3_follow_r2) ++ wsX30 ++ wsX10 ++ wsX40)
def wsX3_findPair_r1 : List Cond := [Cond.fieldLink RX3 155 "ClosExchange$Network" "pairRule" "I", Cond.fieldLink RX3 119 "ClosExchange$Router" "chainLength" "I", Cond.static yX5_hasBit, Cond.initialized RX5, Cond.code yX5_hasBit cX5_hasBit 2 (some .boolean), Cond.methodLink RX3 152 yX3_follow, Cond.instanceMethod yX3_follow, Cond.selects RX3 yX3_follow yX3_follow, Cond.initialized RX3, Cond.code yX3_follow cX3_follow 9 none, Cond.fieldLink RX3 143 "ClosExchange$Router" "pairP" "I", Cond.fieldLink RX3 158 "ClosExchange$Router" "pairQ" "I", Cond.fieldLink RX3 132 "ClosExchange$Network" "lastLinks" "LClosExchange$Row;", Cond.fieldLink RX3 125 "ClosExchange$Network" "firstLinks" "LClosExchange$Row;", Cond.fieldLink RX3 14 "ClosExchange$Router" "chain" "LClosExchange$Row;", Cond.fieldLink RX3 113 "ClosExchange$Network" "outlets" "LClosExchange$Row;", Cond.static yX5_link, Cond.code yX5_link cX5_link 2 (some .int), Cond.methodLink RX3 47 yX4_get, Cond.instanceMethod yX4_get, Cond.selects RX4 yX4_get yX4_get, Cond.initialized RX4, Cond.code yX4_get cX4_get 2 (some .int), Cond.fieldLink RX4 15 "ClosExchange$Row" "cells" "[I"]
def wsX3_findPair_r2 : List Cond := [Cond.methodLink RX3 164 yX4_set, Cond.instanceMethod yX4_set, Cond.selects RX4 yX4_set yX4_set, Cond.code yX4_set cX4_set 3 none, Cond.methodLink RX3 122 yX1_boardOf, Cond.instanceMethod yX1_boardOf, Cond.selects RX1 yX1_boardOf yX1_boardOf, Cond.initialized RX1, Cond.code yX1_boardOf cX1_boardOf 2 (some .int), Cond.fieldLink RX1 15 "ClosExchange$Network" "lines" "I"]
def wsX3_findPair : List Cond := .code yX3_findPair cX3_findPair 11 none :: ((wsX3_findPair_r1 ++ wsX3_findPair_r2) ++ wsX10 ++ wsX30 ++ wsX40)
def wsX3_findWay_r1 : List Cond := [Cond.fieldLink RX3 119 "ClosExchange$Router" "chainLength" "I", Cond.fieldLink RX3 125 "ClosExchange$Network" "firstLinks" "LClosExchange$Row;", Cond.fieldLink RX3 132 "ClosExchange$Network" "lastLinks" "LClosExchange$Row;", Cond.fieldLink RX3 143 "ClosExchange$Router" "pairP" "I", Cond.methodLink RX3 122 yX1_boardOf, Cond.instanceMethod yX1_boardOf, Cond.selects RX1 yX1_boardOf yX1_boardOf, Cond.initialized RX1, Cond.code yX1_boardOf cX1_boardOf 2 (some .int), Cond.fieldLink RX1 15 "ClosExchange$Network" "lines" "I", Cond.methodLink RX3 128 yX1_freeOnLinks, Cond.instanceMethod yX1_freeOnLinks, Cond.selects RX1 yX1_freeOnLinks yX1_freeOnLinks, Cond.code yX1_freeOnLinks cX1_freeOnLinks 5 (some .int), Cond.fieldLink RX1 18 "ClosExchange$Network" "middles" "I", Cond.fieldLink RX1 21 "ClosExchange$Network" "service" "I", Cond.static yX5_link, Cond.initialized RX5, Cond.code yX5_link cX5_link 2 (some .int), Cond.methodLink RX1 77 yX4_get, Cond.instanceMethod yX4_get, Cond.selects RX4 yX4_get yX4_get, Cond.initialized RX4, Cond.code yX4_get cX4_get 2 (some .int)]
def wsX3_findWay_r2 : List Cond := [Cond.fieldLink RX4 15 "ClosExchange$Row" "cells" "[I", Cond.methodLink RX3 135 yX3_choose, Cond.instanceMethod yX3_choose, Cond.selects RX3 yX3_choose yX3_choose, Cond.initialized RX3, Cond.code yX3_choose cX3_choose 8 (some .int), Cond.fieldLink RX3 146 "ClosExchange$Network" "choiceRule" "I", Cond.static yX5_hasBit, Cond.code yX5_hasBit cX5_hasBit 2 (some .boolean), Cond.methodLink RX3 149 yX1_loadOf, Cond.instanceMethod yX1_loadOf, Cond.selects RX1 yX1_loadOf yX1_loadOf, Cond.code yX1_loadOf cX1_loadOf 4 (some .int), Cond.fieldLink RX1 9 "ClosExchange$Network" "boards" "I", Cond.fieldLink RX1 42 "ClosExchange$Network" "firstLinks" "LClosExchange$Row;", Cond.methodLink RX3 139 yX3_findPair, Cond.instanceMethod yX3_findPair, Cond.selects RX3 yX3_findPair yX3_findPair, Cond.code yX3_findPair cX3_findPair 11 none, Cond.fieldLink RX3 155 "ClosExchange$Network" "pairRule" "I", Cond.methodLink RX3 152 yX3_follow, Cond.instanceMethod yX3_follow, Cond.selects RX3 yX3_follow yX3_follow, Cond.code yX3_follow cX3_follow 9 none]
def wsX3_findWay_r3 : List Cond := [Cond.fieldLink RX3 158 "ClosExchange$Router" "pairQ" "I", Cond.fieldLink RX3 14 "ClosExchange$Router" "chain" "LClosExchange$Row;", Cond.fieldLink RX3 113 "ClosExchange$Network" "outlets" "LClosExchange$Row;", Cond.methodLink RX3 47 yX4_get, Cond.methodLink RX3 164 yX4_set, Cond.instanceMethod yX4_set, Cond.selects RX4 yX4_set yX4_set, Cond.code yX4_set cX4_set 3 none]
def wsX3_findWay : List Cond := .code yX3_findWay cX3_findWay 7 (some .int) :: ((wsX3_findWay_r1 ++ (wsX3_findWay_r2 ++ wsX3_findWay_r3)) ++ wsX30 ++ wsX10 ++ wsX40)
def wsX3_tryCall_r1 : List Cond := [Cond.methodLink RX3 37 yX1_isLine, Cond.instanceMethod yX1_isLine, Cond.selects RX1 yX1_isLine yX1_isLine, Cond.initialized RX1, Cond.code yX1_isLine cX1_isLine 2 (some .boolean), Cond.fieldLink RX1 9 "ClosExchange$Network" "boards" "I", Cond.fieldLink RX1 15 "ClosExchange$Network" "lines" "I", Cond.methodLink RX3 41 yX1_isInletBusy, Cond.instanceMethod yX1_isInletBusy, Cond.selects RX1 yX1_isInletBusy yX1_isInletBusy, Cond.code yX1_isInletBusy cX1_isInletBusy 2 (some .boolean), Cond.fieldLink RX1 29 "ClosExchange$Network" "numbers" "LClosExchange$Row;", Cond.methodLink RX1 77 yX4_get, Cond.instanceMethod yX4_get, Cond.selects RX4 yX4_get yX4_get, Cond.initialized RX4, Cond.code yX4_get cX4_get 2 (some .int), Cond.fieldLink RX4 15 "ClosExchange$Row" "cells" "[I", Cond.methodLink RX3 104 yX1_isOutletBusy, Cond.instanceMethod yX1_isOutletBusy, Cond.selects RX1 yX1_isOutletBusy yX1_isOutletBusy, Cond.code yX1_isOutletBusy cX1_isOutletBusy 2 (some .boolean), Cond.fieldLink RX1 39 "ClosExchange$Network" "inlets" "LClosExchange$Row;", Cond.methodLink RX3 107 yX3_findWay]
def wsX3_tryCall_r2 : List Cond := [Cond.instanceMethod yX3_findWay, Cond.selects RX3 yX3_findWay yX3_findWay, Cond.initialized RX3, Cond.code yX3_findWay cX3_findWay 7 (some .int), Cond.fieldLink RX3 119 "ClosExchange$Router" "chainLength" "I", Cond.fieldLink RX3 125 "ClosExchange$Network" "firstLinks" "LClosExchange$Row;", Cond.fieldLink RX3 132 "ClosExchange$Network" "lastLinks" "LClosExchange$Row;", Cond.fieldLink RX3 143 "ClosExchange$Router" "pairP" "I", Cond.methodLink RX3 122 yX1_boardOf, Cond.instanceMethod yX1_boardOf, Cond.selects RX1 yX1_boardOf yX1_boardOf, Cond.code yX1_boardOf cX1_boardOf 2 (some .int), Cond.methodLink RX3 128 yX1_freeOnLinks, Cond.instanceMethod yX1_freeOnLinks, Cond.selects RX1 yX1_freeOnLinks yX1_freeOnLinks, Cond.code yX1_freeOnLinks cX1_freeOnLinks 5 (some .int), Cond.fieldLink RX1 18 "ClosExchange$Network" "middles" "I", Cond.fieldLink RX1 21 "ClosExchange$Network" "service" "I", Cond.static yX5_link, Cond.initialized RX5, Cond.code yX5_link cX5_link 2 (some .int), Cond.methodLink RX3 135 yX3_choose, Cond.instanceMethod yX3_choose, Cond.selects RX3 yX3_choose yX3_choose]
def wsX3_tryCall_r3 : List Cond := [Cond.code yX3_choose cX3_choose 8 (some .int), Cond.fieldLink RX3 146 "ClosExchange$Network" "choiceRule" "I", Cond.static yX5_hasBit, Cond.code yX5_hasBit cX5_hasBit 2 (some .boolean), Cond.methodLink RX3 149 yX1_loadOf, Cond.instanceMethod yX1_loadOf, Cond.selects RX1 yX1_loadOf yX1_loadOf, Cond.code yX1_loadOf cX1_loadOf 4 (some .int), Cond.fieldLink RX1 42 "ClosExchange$Network" "firstLinks" "LClosExchange$Row;", Cond.methodLink RX3 139 yX3_findPair, Cond.instanceMethod yX3_findPair, Cond.selects RX3 yX3_findPair yX3_findPair, Cond.code yX3_findPair cX3_findPair 11 none, Cond.fieldLink RX3 155 "ClosExchange$Network" "pairRule" "I", Cond.methodLink RX3 152 yX3_follow, Cond.instanceMethod yX3_follow, Cond.selects RX3 yX3_follow yX3_follow, Cond.code yX3_follow cX3_follow 9 none, Cond.fieldLink RX3 158 "ClosExchange$Router" "pairQ" "I", Cond.fieldLink RX3 14 "ClosExchange$Router" "chain" "LClosExchange$Row;", Cond.fieldLink RX3 113 "ClosExchange$Network" "outlets" "LClosExchange$Row;", Cond.methodLink RX3 47 yX4_get, Cond.methodLink RX3 164 yX4_set, Cond.instanceMethod yX4_set]
def wsX3_tryCall_r4 : List Cond := [Cond.selects RX4 yX4_set yX4_set, Cond.code yX4_set cX4_set 3 none]
def wsX3_tryCall : List Cond := .code yX3_tryCall cX3_tryCall 4 (some .int) :: ((wsX3_tryCall_r1 ++ (wsX3_tryCall_r2 ++ (wsX3_tryCall_r3 ++ wsX3_tryCall_r4))) ++ wsX10 ++ wsX40 ++ wsX30)
def wsX3_settle_r1 : List Cond := [Cond.fieldLink RX3 119 "ClosExchange$Router" "chainLength" "I", Cond.fieldLink RX3 14 "ClosExchange$Router" "chain" "LClosExchange$Row;", Cond.fieldLink RX3 158 "ClosExchange$Router" "pairQ" "I", Cond.fieldLink RX3 143 "ClosExchange$Router" "pairP" "I", Cond.fieldLink RX3 87 "ClosExchange$Network" "moved" "I", Cond.methodLink RX3 47 yX4_get, Cond.instanceMethod yX4_get, Cond.selects RX4 yX4_get yX4_get, Cond.initialized RX4, Cond.code yX4_get cX4_get 2 (some .int), Cond.fieldLink RX4 15 "ClosExchange$Row" "cells" "[I", Cond.methodLink RX3 71 yX1_liftCall, Cond.instanceMethod yX1_liftCall, Cond.selects RX1 yX1_liftCall yX1_liftCall, Cond.initialized RX1, Cond.code yX1_liftCall cX1_liftCall 3 none, Cond.fieldLink RX1 36 "ClosExchange$Network" "vias" "LClosExchange$Row;", Cond.fieldLink RX1 42 "ClosExchange$Network" "firstLinks" "LClosExchange$Row;", Cond.fieldLink RX1 45 "ClosExchange$Network" "lastLinks" "LClosExchange$Row;", Cond.fieldLink RX1 33 "ClosExchange$Network" "outlets" "LClosExchange$Row;", Cond.methodLink RX1 77 yX4_get, Cond.methodLink RX1 104 yX1_boardOf, Cond.instanceMethod yX1_boardOf, Cond.selects RX1 yX1_boardOf yX1_boardOf]
def wsX3_settle_r2 : List Cond := [Cond.code yX1_boardOf cX1_boardOf 2 (some .int), Cond.fieldLink RX1 15 "ClosExchange$Network" "lines" "I", Cond.static yX5_link, Cond.initialized RX5, Cond.code yX5_link cX5_link 2 (some .int), Cond.methodLink RX1 97 yX4_set, Cond.instanceMethod yX4_set, Cond.selects RX4 yX4_set yX4_set, Cond.code yX4_set cX4_set 3 none, Cond.methodLink RX3 167 yX1_carryCall, Cond.instanceMethod yX1_carryCall, Cond.selects RX1 yX1_carryCall yX1_carryCall, Cond.code yX1_carryCall cX1_carryCall 3 none]
def wsX3_settle : List Cond := .code yX3_settle cX3_settle 5 none :: ((wsX3_settle_r1 ++ wsX3_settle_r2) ++ wsX30 ++ wsX10 ++ wsX40)
def wsX3_join_r1 : List Cond := [Cond.methodLink RX3 23 yX3_tryCall, Cond.instanceMethod yX3_tryCall, Cond.selects RX3 yX3_tryCall yX3_tryCall, Cond.initialized RX3, Cond.code yX3_tryCall cX3_tryCall 4 (some .int), Cond.methodLink RX3 37 yX1_isLine, Cond.instanceMethod yX1_isLine, Cond.selects RX1 yX1_isLine yX1_isLine, Cond.initialized RX1, Cond.code yX1_isLine cX1_isLine 2 (some .boolean), Cond.fieldLink RX1 9 "ClosExchange$Network" "boards" "I", Cond.fieldLink RX1 15 "ClosExchange$Network" "lines" "I", Cond.methodLink RX3 41 yX1_isInletBusy, Cond.instanceMethod yX1_isInletBusy, Cond.selects RX1 yX1_isInletBusy yX1_isInletBusy, Cond.code yX1_isInletBusy cX1_isInletBusy 2 (some .boolean), Cond.fieldLink RX1 29 "ClosExchange$Network" "numbers" "LClosExchange$Row;", Cond.methodLink RX1 77 yX4_get, Cond.instanceMethod yX4_get, Cond.selects RX4 yX4_get yX4_get, Cond.initialized RX4, Cond.code yX4_get cX4_get 2 (some .int), Cond.fieldLink RX4 15 "ClosExchange$Row" "cells" "[I", Cond.methodLink RX3 104 yX1_isOutletBusy]
def wsX3_join_r2 : List Cond := [Cond.instanceMethod yX1_isOutletBusy, Cond.selects RX1 yX1_isOutletBusy yX1_isOutletBusy, Cond.code yX1_isOutletBusy cX1_isOutletBusy 2 (some .boolean), Cond.fieldLink RX1 39 "ClosExchange$Network" "inlets" "LClosExchange$Row;", Cond.methodLink RX3 107 yX3_findWay, Cond.instanceMethod yX3_findWay, Cond.selects RX3 yX3_findWay yX3_findWay, Cond.code yX3_findWay cX3_findWay 7 (some .int), Cond.fieldLink RX3 119 "ClosExchange$Router" "chainLength" "I", Cond.fieldLink RX3 125 "ClosExchange$Network" "firstLinks" "LClosExchange$Row;", Cond.fieldLink RX3 132 "ClosExchange$Network" "lastLinks" "LClosExchange$Row;", Cond.fieldLink RX3 143 "ClosExchange$Router" "pairP" "I", Cond.methodLink RX3 122 yX1_boardOf, Cond.instanceMethod yX1_boardOf, Cond.selects RX1 yX1_boardOf yX1_boardOf, Cond.code yX1_boardOf cX1_boardOf 2 (some .int), Cond.methodLink RX3 128 yX1_freeOnLinks, Cond.instanceMethod yX1_freeOnLinks, Cond.selects RX1 yX1_freeOnLinks yX1_freeOnLinks, Cond.code yX1_freeOnLinks cX1_freeOnLinks 5 (some .int), Cond.fieldLink RX1 18 "ClosExchange$Network" "middles" "I", Cond.fieldLink RX1 21 "ClosExchange$Network" "service" "I", Cond.static yX5_link, Cond.initialized RX5]
def wsX3_join_r3 : List Cond := [Cond.code yX5_link cX5_link 2 (some .int), Cond.methodLink RX3 135 yX3_choose, Cond.instanceMethod yX3_choose, Cond.selects RX3 yX3_choose yX3_choose, Cond.code yX3_choose cX3_choose 8 (some .int), Cond.fieldLink RX3 146 "ClosExchange$Network" "choiceRule" "I", Cond.static yX5_hasBit, Cond.code yX5_hasBit cX5_hasBit 2 (some .boolean), Cond.methodLink RX3 149 yX1_loadOf, Cond.instanceMethod yX1_loadOf, Cond.selects RX1 yX1_loadOf yX1_loadOf, Cond.code yX1_loadOf cX1_loadOf 4 (some .int), Cond.fieldLink RX1 42 "ClosExchange$Network" "firstLinks" "LClosExchange$Row;", Cond.methodLink RX3 139 yX3_findPair, Cond.instanceMethod yX3_findPair, Cond.selects RX3 yX3_findPair yX3_findPair, Cond.code yX3_findPair cX3_findPair 11 none, Cond.fieldLink RX3 155 "ClosExchange$Network" "pairRule" "I", Cond.methodLink RX3 152 yX3_follow, Cond.instanceMethod yX3_follow, Cond.selects RX3 yX3_follow yX3_follow, Cond.code yX3_follow cX3_follow 9 none, Cond.fieldLink RX3 158 "ClosExchange$Router" "pairQ" "I", Cond.fieldLink RX3 14 "ClosExchange$Router" "chain" "LClosExchange$Row;"]
def wsX3_join_r4 : List Cond := [Cond.fieldLink RX3 113 "ClosExchange$Network" "outlets" "LClosExchange$Row;", Cond.methodLink RX3 47 yX4_get, Cond.methodLink RX3 164 yX4_set, Cond.instanceMethod yX4_set, Cond.selects RX4 yX4_set yX4_set, Cond.code yX4_set cX4_set 3 none, Cond.methodLink RX3 27 yX1_addCall, Cond.instanceMethod yX1_addCall, Cond.selects RX1 yX1_addCall yX1_addCall, Cond.code yX1_addCall cX1_addCall 3 none, Cond.fieldLink RX1 54 "ClosExchange$Network" "connected" "I", Cond.fieldLink RX1 33 "ClosExchange$Network" "outlets" "LClosExchange$Row;", Cond.methodLink RX1 97 yX4_set, Cond.methodLink RX3 33 yX3_settle, Cond.instanceMethod yX3_settle, Cond.selects RX3 yX3_settle yX3_settle, Cond.code yX3_settle cX3_settle 5 none, Cond.fieldLink RX3 87 "ClosExchange$Network" "moved" "I", Cond.methodLink RX3 71 yX1_liftCall, Cond.instanceMethod yX1_liftCall, Cond.selects RX1 yX1_liftCall yX1_liftCall, Cond.code yX1_liftCall cX1_liftCall 3 none, Cond.fieldLink RX1 36 "ClosExchange$Network" "vias" "LClosExchange$Row;", Cond.fieldLink RX1 45 "ClosExchange$Network" "lastLinks" "LClosExchange$Row;"]
def wsX3_join_r5 : List Cond := [Cond.methodLink RX1 104 yX1_boardOf, Cond.methodLink RX3 167 yX1_carryCall, Cond.instanceMethod yX1_carryCall, Cond.selects RX1 yX1_carryCall yX1_carryCall, Cond.code yX1_carryCall cX1_carryCall 3 none]
def wsX3_join : List Cond := .code yX3_join cX3_join 5 (some .int) :: ((wsX3_join_r1 ++ (wsX3_join_r2 ++ (wsX3_join_r3 ++ (wsX3_join_r4 ++ wsX3_join_r5)))) ++ wsX10 ++ wsX40 ++ wsX30)
def wsX3_part_r1 : List Cond := [Cond.fieldLink RX3 44 "ClosExchange$Network" "numbers" "LClosExchange$Row;", Cond.fieldLink RX3 54 "ClosExchange$Network" "ended" "I", Cond.methodLink RX3 37 yX1_isLine, Cond.instanceMethod yX1_isLine, Cond.selects RX1 yX1_isLine yX1_isLine, Cond.initialized RX1, Cond.code yX1_isLine cX1_isLine 2 (some .boolean), Cond.fieldLink RX1 9 "ClosExchange$Network" "boards" "I", Cond.fieldLink RX1 15 "ClosExchange$Network" "lines" "I", Cond.methodLink RX3 41 yX1_isInletBusy, Cond.instanceMethod yX1_isInletBusy, Cond.selects RX1 yX1_isInletBusy yX1_isInletBusy, Cond.code yX1_isInletBusy cX1_isInletBusy 2 (some .boolean), Cond.fieldLink RX1 29 "ClosExchange$Network" "numbers" "LClosExchange$Row;", Cond.methodLink RX1 77 yX4_get, Cond.instanceMethod yX4_get, Cond.selects RX4 yX4_get yX4_get, Cond.initialized RX4, Cond.code yX4_get cX4_get 2 (some .int), Cond.fieldLink RX4 15 "ClosExchange$Row" "cells" "[I", Cond.methodLink RX3 47 yX4_get, Cond.methodLink RX3 51 yX1_removeCall, Cond.instanceMethod yX1_removeCall, Cond.selects RX1 yX1_removeCall yX1_removeCall]
def wsX3_part_r2 : List Cond := [Cond.code yX1_removeCall cX1_removeCall 2 none, Cond.fieldLink RX1 39 "ClosExchange$Network" "inlets" "LClosExchange$Row;", Cond.fieldLink RX1 33 "ClosExchange$Network" "outlets" "LClosExchange$Row;", Cond.methodLink RX1 101 yX1_liftCall, Cond.instanceMethod yX1_liftCall, Cond.selects RX1 yX1_liftCall yX1_liftCall, Cond.code yX1_liftCall cX1_liftCall 3 none, Cond.fieldLink RX1 36 "ClosExchange$Network" "vias" "LClosExchange$Row;", Cond.fieldLink RX1 42 "ClosExchange$Network" "firstLinks" "LClosExchange$Row;", Cond.fieldLink RX1 45 "ClosExchange$Network" "lastLinks" "LClosExchange$Row;", Cond.methodLink RX1 104 yX1_boardOf, Cond.instanceMethod yX1_boardOf, Cond.selects RX1 yX1_boardOf yX1_boardOf, Cond.code yX1_boardOf cX1_boardOf 2 (some .int), Cond.static yX5_link, Cond.initialized RX5, Cond.code yX5_link cX5_link 2 (some .int), Cond.methodLink RX1 97 yX4_set, Cond.instanceMethod yX4_set, Cond.selects RX4 yX4_set yX4_set, Cond.code yX4_set cX4_set 3 none]
def wsX3_part : List Cond := .code yX3_part cX3_part 4 (some .int) :: ((wsX3_part_r1 ++ wsX3_part_r2) ++ wsX10 ++ wsX40)
def wsX3_reroute_r1 : List Cond := [Cond.fieldLink RX3 113 "ClosExchange$Network" "outlets" "LClosExchange$Row;", Cond.fieldLink RX3 87 "ClosExchange$Network" "moved" "I", Cond.fieldLink RX3 116 "ClosExchange$Network" "dropped" "I", Cond.methodLink RX3 110 yX1_firstLifted, Cond.instanceMethod yX1_firstLifted, Cond.selects RX1 yX1_firstLifted yX1_firstLifted, Cond.initialized RX1, Cond.code yX1_firstLifted cX1_firstLifted 3 (some .int), Cond.fieldLink RX1 36 "ClosExchange$Network" "vias" "LClosExchange$Row;", Cond.fieldLink RX1 29 "ClosExchange$Network" "numbers" "LClosExchange$Row;", Cond.methodLink RX1 85 yX1_isInletBusy, Cond.instanceMethod yX1_isInletBusy, Cond.selects RX1 yX1_isInletBusy yX1_isInletBusy, Cond.code yX1_isInletBusy cX1_isInletBusy 2 (some .boolean), Cond.methodLink RX1 77 yX4_get, Cond.instanceMethod yX4_get, Cond.selects RX4 yX4_get yX4_get, Cond.initialized RX4, Cond.code yX4_get cX4_get 2 (some .int), Cond.fieldLink RX4 15 "ClosExchange$Row" "cells" "[I", Cond.methodLink RX3 47 yX4_get, Cond.methodLink RX3 107 yX3_findWay, Cond.instanceMethod yX3_findWay, Cond.selects RX3 yX3_findWay yX3_findWay]
def wsX3_reroute_r2 : List Cond := [Cond.initialized RX3, Cond.code yX3_findWay cX3_findWay 7 (some .int), Cond.fieldLink RX3 119 "ClosExchange$Router" "chainLength" "I", Cond.fieldLink RX3 125 "ClosExchange$Network" "firstLinks" "LClosExchange$Row;", Cond.fieldLink RX3 132 "ClosExchange$Network" "lastLinks" "LClosExchange$Row;", Cond.fieldLink RX3 143 "ClosExchange$Router" "pairP" "I", Cond.methodLink RX3 122 yX1_boardOf, Cond.instanceMethod yX1_boardOf, Cond.selects RX1 yX1_boardOf yX1_boardOf, Cond.code yX1_boardOf cX1_boardOf 2 (some .int), Cond.fieldLink RX1 15 "ClosExchange$Network" "lines" "I", Cond.methodLink RX3 128 yX1_freeOnLinks, Cond.instanceMethod yX1_freeOnLinks, Cond.selects RX1 yX1_freeOnLinks yX1_freeOnLinks, Cond.code yX1_freeOnLinks cX1_freeOnLinks 5 (some .int), Cond.fieldLink RX1 18 "ClosExchange$Network" "middles" "I", Cond.fieldLink RX1 21 "ClosExchange$Network" "service" "I", Cond.static yX5_link, Cond.initialized RX5, Cond.code yX5_link cX5_link 2 (some .int), Cond.methodLink RX3 135 yX3_choose, Cond.instanceMethod yX3_choose, Cond.selects RX3 yX3_choose yX3_choose, Cond.code yX3_choose cX3_choose 8 (some .int)]
def wsX3_reroute_r3 : List Cond := [Cond.fieldLink RX3 146 "ClosExchange$Network" "choiceRule" "I", Cond.static yX5_hasBit, Cond.code yX5_hasBit cX5_hasBit 2 (some .boolean), Cond.methodLink RX3 149 yX1_loadOf, Cond.instanceMethod yX1_loadOf, Cond.selects RX1 yX1_loadOf yX1_loadOf, Cond.code yX1_loadOf cX1_loadOf 4 (some .int), Cond.fieldLink RX1 9 "ClosExchange$Network" "boards" "I", Cond.fieldLink RX1 42 "ClosExchange$Network" "firstLinks" "LClosExchange$Row;", Cond.methodLink RX3 139 yX3_findPair, Cond.instanceMethod yX3_findPair, Cond.selects RX3 yX3_findPair yX3_findPair, Cond.code yX3_findPair cX3_findPair 11 none, Cond.fieldLink RX3 155 "ClosExchange$Network" "pairRule" "I", Cond.methodLink RX3 152 yX3_follow, Cond.instanceMethod yX3_follow, Cond.selects RX3 yX3_follow yX3_follow, Cond.code yX3_follow cX3_follow 9 none, Cond.fieldLink RX3 158 "ClosExchange$Router" "pairQ" "I", Cond.fieldLink RX3 14 "ClosExchange$Router" "chain" "LClosExchange$Row;", Cond.methodLink RX3 164 yX4_set, Cond.instanceMethod yX4_set, Cond.selects RX4 yX4_set yX4_set, Cond.code yX4_set cX4_set 3 none]
def wsX3_reroute_r4 : List Cond := [Cond.methodLink RX3 51 yX1_removeCall, Cond.instanceMethod yX1_removeCall, Cond.selects RX1 yX1_removeCall yX1_removeCall, Cond.code yX1_removeCall cX1_removeCall 2 none, Cond.fieldLink RX1 39 "ClosExchange$Network" "inlets" "LClosExchange$Row;", Cond.fieldLink RX1 33 "ClosExchange$Network" "outlets" "LClosExchange$Row;", Cond.methodLink RX1 101 yX1_liftCall, Cond.instanceMethod yX1_liftCall, Cond.selects RX1 yX1_liftCall yX1_liftCall, Cond.code yX1_liftCall cX1_liftCall 3 none, Cond.fieldLink RX1 45 "ClosExchange$Network" "lastLinks" "LClosExchange$Row;", Cond.methodLink RX1 104 yX1_boardOf, Cond.methodLink RX1 97 yX4_set, Cond.methodLink RX3 33 yX3_settle, Cond.instanceMethod yX3_settle, Cond.selects RX3 yX3_settle yX3_settle, Cond.code yX3_settle cX3_settle 5 none, Cond.methodLink RX3 71 yX1_liftCall, Cond.methodLink RX3 167 yX1_carryCall, Cond.instanceMethod yX1_carryCall, Cond.selects RX1 yX1_carryCall yX1_carryCall, Cond.code yX1_carryCall cX1_carryCall 3 none]
def wsX3_reroute : List Cond := .code yX3_reroute cX3_reroute 6 (some .int) :: ((wsX3_reroute_r1 ++ (wsX3_reroute_r2 ++ (wsX3_reroute_r3 ++ wsX3_reroute_r4))) ++ wsX10 ++ wsX40 ++ wsX30)
def wsX3_retire_r1 : List Cond := [Cond.fieldLink RX3 61 "ClosExchange$Network" "service" "I", Cond.fieldLink RX3 68 "ClosExchange$Network" "vias" "LClosExchange$Row;", Cond.methodLink RX3 58 yX1_isMiddle, Cond.instanceMethod yX1_isMiddle, Cond.selects RX1 yX1_isMiddle yX1_isMiddle, Cond.initialized RX1, Cond.code yX1_isMiddle cX1_isMiddle 2 (some .boolean), Cond.fieldLink RX1 18 "ClosExchange$Network" "middles" "I", Cond.static yX5_hasBit, Cond.initialized RX5, Cond.code yX5_hasBit cX5_hasBit 2 (some .boolean), Cond.methodLink RX3 47 yX4_get, Cond.instanceMethod yX4_get, Cond.selects RX4 yX4_get yX4_get, Cond.initialized RX4, Cond.code yX4_get cX4_get 2 (some .int), Cond.fieldLink RX4 15 "ClosExchange$Row" "cells" "[I", Cond.methodLink RX3 71 yX1_liftCall, Cond.instanceMethod yX1_liftCall, Cond.selects RX1 yX1_liftCall yX1_liftCall, Cond.code yX1_liftCall cX1_liftCall 3 none, Cond.fieldLink RX1 36 "ClosExchange$Network" "vias" "LClosExchange$Row;", Cond.fieldLink RX1 42 "ClosExchange$Network" "firstLinks" "LClosExchange$Row;", Cond.fieldLink RX1 45 "ClosExchange$Network" "lastLinks" "LClosExchange$Row;"]
def wsX3_retire_r2 : List Cond := [Cond.fieldLink RX1 33 "ClosExchange$Network" "outlets" "LClosExchange$Row;", Cond.methodLink RX1 77 yX4_get, Cond.methodLink RX1 104 yX1_boardOf, Cond.instanceMethod yX1_boardOf, Cond.selects RX1 yX1_boardOf yX1_boardOf, Cond.code yX1_boardOf cX1_boardOf 2 (some .int), Cond.fieldLink RX1 15 "ClosExchange$Network" "lines" "I", Cond.static yX5_link, Cond.code yX5_link cX5_link 2 (some .int), Cond.methodLink RX1 97 yX4_set, Cond.instanceMethod yX4_set, Cond.selects RX4 yX4_set yX4_set, Cond.code yX4_set cX4_set 3 none, Cond.methodLink RX3 74 yX3_reroute, Cond.instanceMethod yX3_reroute, Cond.selects RX3 yX3_reroute yX3_reroute, Cond.initialized RX3, Cond.code yX3_reroute cX3_reroute 6 (some .int), Cond.fieldLink RX3 113 "ClosExchange$Network" "outlets" "LClosExchange$Row;", Cond.fieldLink RX3 87 "ClosExchange$Network" "moved" "I", Cond.fieldLink RX3 116 "ClosExchange$Network" "dropped" "I", Cond.methodLink RX3 110 yX1_firstLifted, Cond.instanceMethod yX1_firstLifted, Cond.selects RX1 yX1_firstLifted yX1_firstLifted]
def wsX3_retire_r3 : List Cond := [Cond.code yX1_firstLifted cX1_firstLifted 3 (some .int), Cond.fieldLink RX1 29 "ClosExchange$Network" "numbers" "LClosExchange$Row;", Cond.methodLink RX1 85 yX1_isInletBusy, Cond.instanceMethod yX1_isInletBusy, Cond.selects RX1 yX1_isInletBusy yX1_isInletBusy, Cond.code yX1_isInletBusy cX1_isInletBusy 2 (some .boolean), Cond.methodLink RX3 107 yX3_findWay, Cond.instanceMethod yX3_findWay, Cond.selects RX3 yX3_findWay yX3_findWay, Cond.code yX3_findWay cX3_findWay 7 (some .int), Cond.fieldLink RX3 119 "ClosExchange$Router" "chainLength" "I", Cond.fieldLink RX3 125 "ClosExchange$Network" "firstLinks" "LClosExchange$Row;", Cond.fieldLink RX3 132 "ClosExchange$Network" "lastLinks" "LClosExchange$Row;", Cond.fieldLink RX3 143 "ClosExchange$Router" "pairP" "I", Cond.methodLink RX3 122 yX1_boardOf, Cond.methodLink RX3 128 yX1_freeOnLinks, Cond.instanceMethod yX1_freeOnLinks, Cond.selects RX1 yX1_freeOnLinks yX1_freeOnLinks, Cond.code yX1_freeOnLinks cX1_freeOnLinks 5 (some .int), Cond.fieldLink RX1 21 "ClosExchange$Network" "service" "I", Cond.methodLink RX3 135 yX3_choose, Cond.instanceMethod yX3_choose, Cond.selects RX3 yX3_choose yX3_choose, Cond.code yX3_choose cX3_choose 8 (some .int)]
def wsX3_retire_r4 : List Cond := [Cond.fieldLink RX3 146 "ClosExchange$Network" "choiceRule" "I", Cond.methodLink RX3 149 yX1_loadOf, Cond.instanceMethod yX1_loadOf, Cond.selects RX1 yX1_loadOf yX1_loadOf, Cond.code yX1_loadOf cX1_loadOf 4 (some .int), Cond.fieldLink RX1 9 "ClosExchange$Network" "boards" "I", Cond.methodLink RX3 139 yX3_findPair, Cond.instanceMethod yX3_findPair, Cond.selects RX3 yX3_findPair yX3_findPair, Cond.code yX3_findPair cX3_findPair 11 none, Cond.fieldLink RX3 155 "ClosExchange$Network" "pairRule" "I", Cond.methodLink RX3 152 yX3_follow, Cond.instanceMethod yX3_follow, Cond.selects RX3 yX3_follow yX3_follow, Cond.code yX3_follow cX3_follow 9 none, Cond.fieldLink RX3 158 "ClosExchange$Router" "pairQ" "I", Cond.fieldLink RX3 14 "ClosExchange$Router" "chain" "LClosExchange$Row;", Cond.methodLink RX3 164 yX4_set, Cond.methodLink RX3 51 yX1_removeCall, Cond.instanceMethod yX1_removeCall, Cond.selects RX1 yX1_removeCall yX1_removeCall, Cond.code yX1_removeCall cX1_removeCall 2 none, Cond.fieldLink RX1 39 "ClosExchange$Network" "inlets" "LClosExchange$Row;", Cond.methodLink RX1 101 yX1_liftCall]
def wsX3_retire_r5 : List Cond := [Cond.methodLink RX3 33 yX3_settle, Cond.instanceMethod yX3_settle, Cond.selects RX3 yX3_settle yX3_settle, Cond.code yX3_settle cX3_settle 5 none, Cond.methodLink RX3 167 yX1_carryCall, Cond.instanceMethod yX1_carryCall, Cond.selects RX1 yX1_carryCall yX1_carryCall, Cond.code yX1_carryCall cX1_carryCall 3 none]
def wsX3_retire : List Cond := .code yX3_retire cX3_retire 4 (some .int) :: ((wsX3_retire_r1 ++ (wsX3_retire_r2 ++ (wsX3_retire_r3 ++ (wsX3_retire_r4 ++ wsX3_retire_r5)))) ++ wsX10 ++ wsX40 ++ wsX30)
def wsJ6_bitCount_0f7a4 : List Cond := .code yJ6_bitCount_0f7a4 cJ6_bitCount_0f7a4 1 (some .int) :: ([.constant RJ6 265 (1431655765), .constant RJ6 266 (858993459), .constant RJ6 267 (252645135)])
def wsX3_revive : List Cond := .code yX3_revive cX3_revive 3 (some .int) :: ([.fieldLink RX3 61 "ClosExchange$Network" "service" "I", .methodLink RX3 58 yX1_isMiddle, .instanceMethod yX1_isMiddle, .selects RX1 yX1_isMiddle yX1_isMiddle, .initialized RX1, .code yX1_isMiddle cX1_isMiddle 2 (some .boolean), .fieldLink RX1 18 "ClosExchange$Network" "middles" "I", .static yX5_hasBit, .initialized RX5, .code yX5_hasBit cX5_hasBit 2 (some .boolean), .methodLink RX3 78 yJ6_bitCount_0f7a4, .static yJ6_bitCount_0f7a4, .initialized RJ6, .code yJ6_bitCount_0f7a4 cJ6_bitCount_0f7a4 1 (some .int), .constant RJ6 265 (1431655765), .constant RJ6 266 (858993459), .constant RJ6 267 (252645135)] ++ wsX10)
def wsX3_lowestBits : List Cond := .code yX3_lowestBits cX3_lowestBits 5 (some .int) :: ([.static yX5_hasBit, .initialized RX5, .code yX5_hasBit cX5_hasBit 2 (some .boolean)])
def wsX3_countChanged : List Cond := .code yX3_countChanged cX3_countChanged 4 (some .int) :: ([.fieldLink RX3 68 "ClosExchange$Network" "vias" "LClosExchange$Row;", .fieldLink RX3 20 "ClosExchange$Router" "formerVias" "LClosExchange$Row;", .methodLink RX3 47 yX4_get, .instanceMethod yX4_get, .selects RX4 yX4_get yX4_get, .initialized RX4, .code yX4_get cX4_get 2 (some .int), .fieldLink RX4 15 "ClosExchange$Row" "cells" "[I"] ++ wsX10 ++ wsX30 ++ wsX40)
def wsX3_repack_r1 : List Cond := [Cond.fieldLink RX3 61 "ClosExchange$Network" "service" "I", Cond.fieldLink RX3 87 "ClosExchange$Network" "moved" "I", Cond.fieldLink RX3 20 "ClosExchange$Router" "formerVias" "LClosExchange$Row;", Cond.fieldLink RX3 68 "ClosExchange$Network" "vias" "LClosExchange$Row;", Cond.methodLink RX3 83 yX1_countCalls, Cond.instanceMethod yX1_countCalls, Cond.selects RX1 yX1_countCalls yX1_countCalls, Cond.initialized RX1, Cond.code yX1_countCalls cX1_countCalls 3 (some .int), Cond.fieldLink RX1 29 "ClosExchange$Network" "numbers" "LClosExchange$Row;", Cond.methodLink RX1 77 yX4_get, Cond.instanceMethod yX4_get, Cond.selects RX4 yX4_get yX4_get, Cond.initialized RX4, Cond.code yX4_get cX4_get 2 (some .int), Cond.fieldLink RX4 15 "ClosExchange$Row" "cells" "[I", Cond.methodLink RX3 90 yX1_fullestBoard, Cond.instanceMethod yX1_fullestBoard, Cond.selects RX1 yX1_fullestBoard yX1_fullestBoard, Cond.code yX1_fullestBoard cX1_fullestBoard 6 (some .int), Cond.fieldLink RX1 9 "ClosExchange$Network" "boards" "I", Cond.fieldLink RX1 15 "ClosExchange$Network" "lines" "I", Cond.methodLink RX1 92 Lib.Math.max.name, Cond.static Lib.Math.max.name]
def wsX3_repack_r2 : List Cond := [Cond.initialized "java/lang/Math", Cond.code Lib.Math.max.name Lib.Math.max.code 2 (some .int), Cond.methodLink RX1 85 yX1_isInletBusy, Cond.instanceMethod yX1_isInletBusy, Cond.selects RX1 yX1_isInletBusy yX1_isInletBusy, Cond.code yX1_isInletBusy cX1_isInletBusy 2 (some .boolean), Cond.methodLink RX1 89 yX1_isOutletBusy, Cond.instanceMethod yX1_isOutletBusy, Cond.selects RX1 yX1_isOutletBusy yX1_isOutletBusy, Cond.code yX1_isOutletBusy cX1_isOutletBusy 2 (some .boolean), Cond.fieldLink RX1 39 "ClosExchange$Network" "inlets" "LClosExchange$Row;", Cond.methodLink RX3 93 yX3_lowestBits, Cond.static yX3_lowestBits, Cond.initialized RX3, Cond.code yX3_lowestBits cX3_lowestBits 5 (some .int), Cond.static yX5_hasBit, Cond.initialized RX5, Cond.code yX5_hasBit cX5_hasBit 2 (some .boolean), Cond.methodLink RX3 97 yX4_copyFrom, Cond.instanceMethod yX4_copyFrom, Cond.selects RX4 yX4_copyFrom yX4_copyFrom, Cond.code yX4_copyFrom cX4_copyFrom 2 none, Cond.methodLink RX4 27 Lib.Math.min.name, Cond.static Lib.Math.min.name]
def wsX3_repack_r3 : List Cond := [Cond.code Lib.Math.min.name Lib.Math.min.code 2 (some .int), Cond.methodLink RX4 30 arraycopyName, Cond.native arraycopyName, Cond.static arraycopyName, Cond.initialized "java/lang/System", Cond.methodLink RX3 71 yX1_liftCall, Cond.instanceMethod yX1_liftCall, Cond.selects RX1 yX1_liftCall yX1_liftCall, Cond.code yX1_liftCall cX1_liftCall 3 none, Cond.fieldLink RX1 36 "ClosExchange$Network" "vias" "LClosExchange$Row;", Cond.fieldLink RX1 42 "ClosExchange$Network" "firstLinks" "LClosExchange$Row;", Cond.fieldLink RX1 45 "ClosExchange$Network" "lastLinks" "LClosExchange$Row;", Cond.fieldLink RX1 33 "ClosExchange$Network" "outlets" "LClosExchange$Row;", Cond.methodLink RX1 104 yX1_boardOf, Cond.instanceMethod yX1_boardOf, Cond.selects RX1 yX1_boardOf yX1_boardOf, Cond.code yX1_boardOf cX1_boardOf 2 (some .int), Cond.static yX5_link, Cond.code yX5_link cX5_link 2 (some .int), Cond.methodLink RX1 97 yX4_set, Cond.instanceMethod yX4_set, Cond.selects RX4 yX4_set yX4_set, Cond.code yX4_set cX4_set 3 none, Cond.methodLink RX3 74 yX3_reroute]
def wsX3_repack_r4 : List Cond := [Cond.instanceMethod yX3_reroute, Cond.selects RX3 yX3_reroute yX3_reroute, Cond.code yX3_reroute cX3_reroute 6 (some .int), Cond.fieldLink RX3 113 "ClosExchange$Network" "outlets" "LClosExchange$Row;", Cond.fieldLink RX3 116 "ClosExchange$Network" "dropped" "I", Cond.methodLink RX3 110 yX1_firstLifted, Cond.instanceMethod yX1_firstLifted, Cond.selects RX1 yX1_firstLifted yX1_firstLifted, Cond.code yX1_firstLifted cX1_firstLifted 3 (some .int), Cond.methodLink RX3 47 yX4_get, Cond.methodLink RX3 107 yX3_findWay, Cond.instanceMethod yX3_findWay, Cond.selects RX3 yX3_findWay yX3_findWay, Cond.code yX3_findWay cX3_findWay 7 (some .int), Cond.fieldLink RX3 119 "ClosExchange$Router" "chainLength" "I", Cond.fieldLink RX3 125 "ClosExchange$Network" "firstLinks" "LClosExchange$Row;", Cond.fieldLink RX3 132 "ClosExchange$Network" "lastLinks" "LClosExchange$Row;", Cond.fieldLink RX3 143 "ClosExchange$Router" "pairP" "I", Cond.methodLink RX3 122 yX1_boardOf, Cond.methodLink RX3 128 yX1_freeOnLinks, Cond.instanceMethod yX1_freeOnLinks, Cond.selects RX1 yX1_freeOnLinks yX1_freeOnLinks, Cond.code yX1_freeOnLinks cX1_freeOnLinks 5 (some .int), Cond.fieldLink RX1 18 "ClosExchange$Network" "middles" "I"]
def wsX3_repack_r5 : List Cond := [Cond.fieldLink RX1 21 "ClosExchange$Network" "service" "I", Cond.methodLink RX3 135 yX3_choose, Cond.instanceMethod yX3_choose, Cond.selects RX3 yX3_choose yX3_choose, Cond.code yX3_choose cX3_choose 8 (some .int), Cond.fieldLink RX3 146 "ClosExchange$Network" "choiceRule" "I", Cond.methodLink RX3 149 yX1_loadOf, Cond.instanceMethod yX1_loadOf, Cond.selects RX1 yX1_loadOf yX1_loadOf, Cond.code yX1_loadOf cX1_loadOf 4 (some .int), Cond.methodLink RX3 139 yX3_findPair, Cond.instanceMethod yX3_findPair, Cond.selects RX3 yX3_findPair yX3_findPair, Cond.code yX3_findPair cX3_findPair 11 none, Cond.fieldLink RX3 155 "ClosExchange$Network" "pairRule" "I", Cond.methodLink RX3 152 yX3_follow, Cond.instanceMethod yX3_follow, Cond.selects RX3 yX3_follow yX3_follow, Cond.code yX3_follow cX3_follow 9 none, Cond.fieldLink RX3 158 "ClosExchange$Router" "pairQ" "I", Cond.fieldLink RX3 14 "ClosExchange$Router" "chain" "LClosExchange$Row;", Cond.methodLink RX3 164 yX4_set, Cond.methodLink RX3 51 yX1_removeCall, Cond.instanceMethod yX1_removeCall]
def wsX3_repack_r6 : List Cond := [Cond.selects RX1 yX1_removeCall yX1_removeCall, Cond.code yX1_removeCall cX1_removeCall 2 none, Cond.methodLink RX1 101 yX1_liftCall, Cond.methodLink RX3 33 yX3_settle, Cond.instanceMethod yX3_settle, Cond.selects RX3 yX3_settle yX3_settle, Cond.code yX3_settle cX3_settle 5 none, Cond.methodLink RX3 167 yX1_carryCall, Cond.instanceMethod yX1_carryCall, Cond.selects RX1 yX1_carryCall yX1_carryCall, Cond.code yX1_carryCall cX1_carryCall 3 none, Cond.methodLink RX3 101 yX3_countChanged, Cond.instanceMethod yX3_countChanged, Cond.selects RX3 yX3_countChanged yX3_countChanged, Cond.code yX3_countChanged cX3_countChanged 4 (some .int)]
def wsX3_repack : List Cond := .code yX3_repack cX3_repack 5 (some .int) :: ((wsX3_repack_r1 ++ (wsX3_repack_r2 ++ (wsX3_repack_r3 ++ (wsX3_repack_r4 ++ (wsX3_repack_r5 ++ wsX3_repack_r6))))) ++ wsX10 ++ wsX30 ++ wsX40)
def wsX5_init_r1 : List Cond := [Cond.methodLink RX5 3 objectInit, Cond.instanceMethod objectInit, Cond.code objectInit ⟨#[0xb1]⟩ 1 none, Cond.classLink RX5 9 RX1, Cond.instantiable RX1 16, Cond.initialized RX1, Cond.fieldLink RX5 12 "ClosExchange" "network" "LClosExchange$Network;", Cond.fieldLink RX5 16 "ClosExchange" "before" "LClosExchange$Network;", Cond.fieldLink RX5 19 "ClosExchange" "snapshot" "LClosExchange$Network;", Cond.fieldLink RX5 22 "ClosExchange" "trial" "LClosExchange$Network;", Cond.classLink RX5 25 RX3, Cond.instantiable RX3 5, Cond.initialized RX3, Cond.fieldLink RX5 28 "ClosExchange" "router" "LClosExchange$Router;", Cond.classLink RX5 32 RX0, Cond.instantiable RX0 3, Cond.initialized RX0, Cond.fieldLink RX5 35 "ClosExchange" "history" "LClosExchange$History;", Cond.classLink RX5 39 RX2, Cond.instantiable RX2 6, Cond.initialized RX2, Cond.fieldLink RX5 42 "ClosExchange" "text" "LClosExchange$OrderText;", Cond.fieldLink RX5 46 "ClosExchange" "kept" "Z", Cond.methodLink RX5 11 yX1_init]
def wsX5_init_r2 : List Cond := [Cond.instanceMethod yX1_init, Cond.code yX1_init cX1_init 1 none, Cond.methodLink RX1 3 objectInit, Cond.fieldLink RX1 9 "ClosExchange$Network" "boards" "I", Cond.fieldLink RX1 15 "ClosExchange$Network" "lines" "I", Cond.fieldLink RX1 18 "ClosExchange$Network" "middles" "I", Cond.fieldLink RX1 21 "ClosExchange$Network" "service" "I", Cond.classLink RX1 24 RX4, Cond.instantiable RX4 1, Cond.initialized RX4, Cond.fieldLink RX1 29 "ClosExchange$Network" "numbers" "LClosExchange$Row;", Cond.fieldLink RX1 33 "ClosExchange$Network" "outlets" "LClosExchange$Row;", Cond.fieldLink RX1 36 "ClosExchange$Network" "vias" "LClosExchange$Row;", Cond.fieldLink RX1 39 "ClosExchange$Network" "inlets" "LClosExchange$Row;", Cond.fieldLink RX1 42 "ClosExchange$Network" "firstLinks" "LClosExchange$Row;", Cond.fieldLink RX1 45 "ClosExchange$Network" "lastLinks" "LClosExchange$Row;", Cond.methodLink RX1 26 yX4_init, Cond.instanceMethod yX4_init, Cond.code yX4_init cX4_init 2 none, Cond.methodLink RX4 3 objectInit, Cond.methodLink RX4 9 Lib.Math.max.name, Cond.static Lib.Math.max.name, Cond.initialized "java/lang/Math", Cond.code Lib.Math.max.name Lib.Math.max.code 2 (some .int)]
def wsX5_init_r3 : List Cond := [Cond.arrayClass .int, Cond.fieldLink RX4 15 "ClosExchange$Row" "cells" "[I", Cond.methodLink RX4 21 yJ7_fill_53178, Cond.static yJ7_fill_53178, Cond.initialized RJ7, Cond.code yJ7_fill_53178 cJ7_fill_53178 4 none, Cond.methodLink RX5 27 yX3_init, Cond.instanceMethod yX3_init, Cond.code yX3_init cX3_init 1 none, Cond.methodLink RX3 3 objectInit, Cond.classLink RX3 9 RX4, Cond.fieldLink RX3 14 "ClosExchange$Router" "chain" "LClosExchange$Row;", Cond.fieldLink RX3 20 "ClosExchange$Router" "formerVias" "LClosExchange$Row;", Cond.methodLink RX3 11 yX4_init, Cond.methodLink RX5 34 yX0_init, Cond.instanceMethod yX0_init, Cond.code yX0_init cX0_init 2 none, Cond.methodLink RX0 3 objectInit, Cond.classLink RX0 9 RX1, Cond.fieldLink RX0 11 "ClosExchange$History" "states" "[LClosExchange$Network;", Cond.methodLink RX0 17 yX1_init, Cond.methodLink RX5 41 yX2_init, Cond.instanceMethod yX2_init, Cond.code yX2_init cX2_init 1 none]
def wsX5_init_r4 : List Cond := [Cond.methodLink RX2 3 objectInit, Cond.classLink RX2 9 RX4, Cond.fieldLink RX2 14 "ClosExchange$OrderText" "signs" "LClosExchange$Row;", Cond.methodLink RX2 11 yX4_init]
def wsX5_init : List Cond := .code yX5_init cX5_init 1 none :: ((wsX5_init_r1 ++ (wsX5_init_r2 ++ (wsX5_init_r3 ++ wsX5_init_r4))) ++ wsX10 ++ wsX50 ++ wsX30 ++ wsX00 ++ wsX20 ++ wsX40)
def wsX5_within : List Cond := .code yX5_within cX5_within 3 (some .boolean) :: ([])
def wsX5_setUp_r1 : List Cond := [Cond.fieldLink RX5 35 "ClosExchange" "history" "LClosExchange$History;", Cond.fieldLink RX5 12 "ClosExchange" "network" "LClosExchange$Network;", Cond.methodLink RX5 50 yX5_within, Cond.static yX5_within, Cond.initialized RX5, Cond.code yX5_within cX5_within 3 (some .boolean), Cond.methodLink RX5 54 yX0_push, Cond.instanceMethod yX0_push, Cond.selects RX0 yX0_push yX0_push, Cond.initialized RX0, Cond.code yX0_push cX0_push 3 none, Cond.fieldLink RX0 18 "ClosExchange$History" "latest" "I", Cond.fieldLink RX0 30 "ClosExchange$History" "count" "I", Cond.methodLink RX0 33 Lib.Math.min.name, Cond.static Lib.Math.min.name, Cond.initialized "java/lang/Math", Cond.code Lib.Math.min.name Lib.Math.min.code 2 (some .int), Cond.methodLink RX0 22 yX0_latestState, Cond.instanceMethod yX0_latestState, Cond.selects RX0 yX0_latestState yX0_latestState, Cond.code yX0_latestState cX0_latestState 1 (some (.object "ClosExchange$Network")), Cond.fieldLink RX0 11 "ClosExchange$History" "states" "[LClosExchange$Network;", Cond.methodLink RX0 26 yX1_copyFrom, Cond.instanceMethod yX1_copyFrom]
def wsX5_setUp_r2 : List Cond := [Cond.selects RX1 yX1_copyFrom yX1_copyFrom, Cond.initialized RX1, Cond.code yX1_copyFrom cX1_copyFrom 2 none, Cond.fieldLink RX1 9 "ClosExchange$Network" "boards" "I", Cond.fieldLink RX1 15 "ClosExchange$Network" "lines" "I", Cond.fieldLink RX1 18 "ClosExchange$Network" "middles" "I", Cond.fieldLink RX1 21 "ClosExchange$Network" "service" "I", Cond.fieldLink RX1 48 "ClosExchange$Network" "choiceRule" "I", Cond.fieldLink RX1 51 "ClosExchange$Network" "pairRule" "I", Cond.fieldLink RX1 54 "ClosExchange$Network" "connected" "I", Cond.fieldLink RX1 57 "ClosExchange$Network" "ended" "I", Cond.fieldLink RX1 60 "ClosExchange$Network" "dropped" "I", Cond.fieldLink RX1 63 "ClosExchange$Network" "moved" "I", Cond.fieldLink RX1 29 "ClosExchange$Network" "numbers" "LClosExchange$Row;", Cond.fieldLink RX1 33 "ClosExchange$Network" "outlets" "LClosExchange$Row;", Cond.fieldLink RX1 36 "ClosExchange$Network" "vias" "LClosExchange$Row;", Cond.fieldLink RX1 39 "ClosExchange$Network" "inlets" "LClosExchange$Row;", Cond.fieldLink RX1 42 "ClosExchange$Network" "firstLinks" "LClosExchange$Row;", Cond.fieldLink RX1 45 "ClosExchange$Network" "lastLinks" "LClosExchange$Row;", Cond.methodLink RX1 66 yX4_copyFrom, Cond.instanceMethod yX4_copyFrom, Cond.selects RX4 yX4_copyFrom yX4_copyFrom, Cond.initialized RX4, Cond.code yX4_copyFrom cX4_copyFrom 2 none]
def wsX5_setUp_r3 : List Cond := [Cond.fieldLink RX4 15 "ClosExchange$Row" "cells" "[I", Cond.methodLink RX4 27 Lib.Math.min.name, Cond.methodLink RX4 30 arraycopyName, Cond.native arraycopyName, Cond.static arraycopyName, Cond.initialized "java/lang/System", Cond.methodLink RX5 58 yX1_rebuild, Cond.instanceMethod yX1_rebuild, Cond.selects RX1 yX1_rebuild yX1_rebuild, Cond.code yX1_rebuild cX1_rebuild 5 (some .int), Cond.methodLink RX1 70 yX1_countCalls, Cond.instanceMethod yX1_countCalls, Cond.selects RX1 yX1_countCalls yX1_countCalls, Cond.code yX1_countCalls cX1_countCalls 3 (some .int), Cond.methodLink RX1 77 yX4_get, Cond.instanceMethod yX4_get, Cond.selects RX4 yX4_get yX4_get, Cond.code yX4_get cX4_get 2 (some .int), Cond.methodLink RX1 74 yX4_empty, Cond.instanceMethod yX4_empty, Cond.selects RX4 yX4_empty yX4_empty, Cond.code yX4_empty cX4_empty 1 none, Cond.methodLink RX4 21 yJ7_fill_53178, Cond.static yJ7_fill_53178]
def wsX5_setUp_r4 : List Cond := [Cond.initialized RJ7, Cond.code yJ7_fill_53178 cJ7_fill_53178 4 none]
def wsX5_setUp : List Cond := .code yX5_setUp cX5_setUp 4 (some .int) :: ((wsX5_setUp_r1 ++ (wsX5_setUp_r2 ++ (wsX5_setUp_r3 ++ wsX5_setUp_r4))) ++ wsX50 ++ wsX00 ++ wsX10 ++ wsX40)
def wsX5_setChoiceRule_r1 : List Cond := [Cond.fieldLink RX5 12 "ClosExchange" "network" "LClosExchange$Network;", Cond.fieldLink RX5 62 "ClosExchange$Network" "choiceRule" "I", Cond.fieldLink RX5 35 "ClosExchange" "history" "LClosExchange$History;", Cond.methodLink RX5 50 yX5_within, Cond.static yX5_within, Cond.initialized RX5, Cond.code yX5_within cX5_within 3 (some .boolean), Cond.methodLink RX5 54 yX0_push, Cond.instanceMethod yX0_push, Cond.selects RX0 yX0_push yX0_push, Cond.initialized RX0, Cond.code yX0_push cX0_push 3 none, Cond.fieldLink RX0 18 "ClosExchange$History" "latest" "I", Cond.fieldLink RX0 30 "ClosExchange$History" "count" "I", Cond.methodLink RX0 33 Lib.Math.min.name, Cond.static Lib.Math.min.name, Cond.initialized "java/lang/Math", Cond.code Lib.Math.min.name Lib.Math.min.code 2 (some .int), Cond.methodLink RX0 22 yX0_latestState, Cond.instanceMethod yX0_latestState, Cond.selects RX0 yX0_latestState yX0_latestState, Cond.code yX0_latestState cX0_latestState 1 (some (.object "ClosExchange$Network")), Cond.fieldLink RX0 11 "ClosExchange$History" "states" "[LClosExchange$Network;", Cond.methodLink RX0 26 yX1_copyFrom]
def wsX5_setChoiceRule_r2 : List Cond := [Cond.instanceMethod yX1_copyFrom, Cond.selects RX1 yX1_copyFrom yX1_copyFrom, Cond.initialized RX1, Cond.code yX1_copyFrom cX1_copyFrom 2 none, Cond.fieldLink RX1 9 "ClosExchange$Network" "boards" "I", Cond.fieldLink RX1 15 "ClosExchange$Network" "lines" "I", Cond.fieldLink RX1 18 "ClosExchange$Network" "middles" "I", Cond.fieldLink RX1 21 "ClosExchange$Network" "service" "I", Cond.fieldLink RX1 48 "ClosExchange$Network" "choiceRule" "I", Cond.fieldLink RX1 51 "ClosExchange$Network" "pairRule" "I", Cond.fieldLink RX1 54 "ClosExchange$Network" "connected" "I", Cond.fieldLink RX1 57 "ClosExchange$Network" "ended" "I", Cond.fieldLink RX1 60 "ClosExchange$Network" "dropped" "I", Cond.fieldLink RX1 63 "ClosExchange$Network" "moved" "I", Cond.fieldLink RX1 29 "ClosExchange$Network" "numbers" "LClosExchange$Row;", Cond.fieldLink RX1 33 "ClosExchange$Network" "outlets" "LClosExchange$Row;", Cond.fieldLink RX1 36 "ClosExchange$Network" "vias" "LClosExchange$Row;", Cond.fieldLink RX1 39 "ClosExchange$Network" "inlets" "LClosExchange$Row;", Cond.fieldLink RX1 42 "ClosExchange$Network" "firstLinks" "LClosExchange$Row;", Cond.fieldLink RX1 45 "ClosExchange$Network" "lastLinks" "LClosExchange$Row;", Cond.methodLink RX1 66 yX4_copyFrom, Cond.instanceMethod yX4_copyFrom, Cond.selects RX4 yX4_copyFrom yX4_copyFrom, Cond.initialized RX4]
def wsX5_setChoiceRule_r3 : List Cond := [Cond.code yX4_copyFrom cX4_copyFrom 2 none, Cond.fieldLink RX4 15 "ClosExchange$Row" "cells" "[I", Cond.methodLink RX4 27 Lib.Math.min.name, Cond.methodLink RX4 30 arraycopyName, Cond.native arraycopyName, Cond.static arraycopyName, Cond.initialized "java/lang/System"]
def wsX5_setChoiceRule : List Cond := .code yX5_setChoiceRule cX5_setChoiceRule 3 (some .int) :: ((wsX5_setChoiceRule_r1 ++ (wsX5_setChoiceRule_r2 ++ wsX5_setChoiceRule_r3)) ++ wsX50 ++ wsX10 ++ wsX00 ++ wsX40)
def wsX5_setPairRule_r1 : List Cond := [Cond.fieldLink RX5 12 "ClosExchange" "network" "LClosExchange$Network;", Cond.fieldLink RX5 66 "ClosExchange$Network" "pairRule" "I", Cond.fieldLink RX5 35 "ClosExchange" "history" "LClosExchange$History;", Cond.methodLink RX5 50 yX5_within, Cond.static yX5_within, Cond.initialized RX5, Cond.code yX5_within cX5_within 3 (some .boolean), Cond.methodLink RX5 54 yX0_push, Cond.instanceMethod yX0_push, Cond.selects RX0 yX0_push yX0_push, Cond.initialized RX0, Cond.code yX0_push cX0_push 3 none, Cond.fieldLink RX0 18 "ClosExchange$History" "latest" "I", Cond.fieldLink RX0 30 "ClosExchange$History" "count" "I", Cond.methodLink RX0 33 Lib.Math.min.name, Cond.static Lib.Math.min.name, Cond.initialized "java/lang/Math", Cond.code Lib.Math.min.name Lib.Math.min.code 2 (some .int), Cond.methodLink RX0 22 yX0_latestState, Cond.instanceMethod yX0_latestState, Cond.selects RX0 yX0_latestState yX0_latestState, Cond.code yX0_latestState cX0_latestState 1 (some (.object "ClosExchange$Network")), Cond.fieldLink RX0 11 "ClosExchange$History" "states" "[LClosExchange$Network;", Cond.methodLink RX0 26 yX1_copyFrom]
def wsX5_setPairRule_r2 : List Cond := [Cond.instanceMethod yX1_copyFrom, Cond.selects RX1 yX1_copyFrom yX1_copyFrom, Cond.initialized RX1, Cond.code yX1_copyFrom cX1_copyFrom 2 none, Cond.fieldLink RX1 9 "ClosExchange$Network" "boards" "I", Cond.fieldLink RX1 15 "ClosExchange$Network" "lines" "I", Cond.fieldLink RX1 18 "ClosExchange$Network" "middles" "I", Cond.fieldLink RX1 21 "ClosExchange$Network" "service" "I", Cond.fieldLink RX1 48 "ClosExchange$Network" "choiceRule" "I", Cond.fieldLink RX1 51 "ClosExchange$Network" "pairRule" "I", Cond.fieldLink RX1 54 "ClosExchange$Network" "connected" "I", Cond.fieldLink RX1 57 "ClosExchange$Network" "ended" "I", Cond.fieldLink RX1 60 "ClosExchange$Network" "dropped" "I", Cond.fieldLink RX1 63 "ClosExchange$Network" "moved" "I", Cond.fieldLink RX1 29 "ClosExchange$Network" "numbers" "LClosExchange$Row;", Cond.fieldLink RX1 33 "ClosExchange$Network" "outlets" "LClosExchange$Row;", Cond.fieldLink RX1 36 "ClosExchange$Network" "vias" "LClosExchange$Row;", Cond.fieldLink RX1 39 "ClosExchange$Network" "inlets" "LClosExchange$Row;", Cond.fieldLink RX1 42 "ClosExchange$Network" "firstLinks" "LClosExchange$Row;", Cond.fieldLink RX1 45 "ClosExchange$Network" "lastLinks" "LClosExchange$Row;", Cond.methodLink RX1 66 yX4_copyFrom, Cond.instanceMethod yX4_copyFrom, Cond.selects RX4 yX4_copyFrom yX4_copyFrom, Cond.initialized RX4]
def wsX5_setPairRule_r3 : List Cond := [Cond.code yX4_copyFrom cX4_copyFrom 2 none, Cond.fieldLink RX4 15 "ClosExchange$Row" "cells" "[I", Cond.methodLink RX4 27 Lib.Math.min.name, Cond.methodLink RX4 30 arraycopyName, Cond.native arraycopyName, Cond.static arraycopyName, Cond.initialized "java/lang/System"]
def wsX5_setPairRule : List Cond := .code yX5_setPairRule cX5_setPairRule 3 (some .int) :: ((wsX5_setPairRule_r1 ++ (wsX5_setPairRule_r2 ++ wsX5_setPairRule_r3)) ++ wsX50 ++ wsX10 ++ wsX00 ++ wsX40)
def wsX5_recorded_r1 : List Cond := [Cond.fieldLink RX5 35 "ClosExchange" "history" "LClosExchange$History;", Cond.fieldLink RX5 16 "ClosExchange" "before" "LClosExchange$Network;", Cond.methodLink RX5 54 yX0_push, Cond.instanceMethod yX0_push, Cond.selects RX0 yX0_push yX0_push, Cond.initialized RX0, Cond.code yX0_push cX0_push 3 none, Cond.fieldLink RX0 18 "ClosExchange$History" "latest" "I", Cond.fieldLink RX0 30 "ClosExchange$History" "count" "I", Cond.methodLink RX0 33 Lib.Math.min.name, Cond.static Lib.Math.min.name, Cond.initialized "java/lang/Math", Cond.code Lib.Math.min.name Lib.Math.min.code 2 (some .int), Cond.methodLink RX0 22 yX0_latestState, Cond.instanceMethod yX0_latestState, Cond.selects RX0 yX0_latestState yX0_latestState, Cond.code yX0_latestState cX0_latestState 1 (some (.object "ClosExchange$Network")), Cond.fieldLink RX0 11 "ClosExchange$History" "states" "[LClosExchange$Network;", Cond.methodLink RX0 26 yX1_copyFrom, Cond.instanceMethod yX1_copyFrom, Cond.selects RX1 yX1_copyFrom yX1_copyFrom, Cond.initialized RX1, Cond.code yX1_copyFrom cX1_copyFrom 2 none, Cond.fieldLink RX1 9 "ClosExchange$Network" "boards" "I"]
def wsX5_recorded_r2 : List Cond := [Cond.fieldLink RX1 15 "ClosExchange$Network" "lines" "I", Cond.fieldLink RX1 18 "ClosExchange$Network" "middles" "I", Cond.fieldLink RX1 21 "ClosExchange$Network" "service" "I", Cond.fieldLink RX1 48 "ClosExchange$Network" "choiceRule" "I", Cond.fieldLink RX1 51 "ClosExchange$Network" "pairRule" "I", Cond.fieldLink RX1 54 "ClosExchange$Network" "connected" "I", Cond.fieldLink RX1 57 "ClosExchange$Network" "ended" "I", Cond.fieldLink RX1 60 "ClosExchange$Network" "dropped" "I", Cond.fieldLink RX1 63 "ClosExchange$Network" "moved" "I", Cond.fieldLink RX1 29 "ClosExchange$Network" "numbers" "LClosExchange$Row;", Cond.fieldLink RX1 33 "ClosExchange$Network" "outlets" "LClosExchange$Row;", Cond.fieldLink RX1 36 "ClosExchange$Network" "vias" "LClosExchange$Row;", Cond.fieldLink RX1 39 "ClosExchange$Network" "inlets" "LClosExchange$Row;", Cond.fieldLink RX1 42 "ClosExchange$Network" "firstLinks" "LClosExchange$Row;", Cond.fieldLink RX1 45 "ClosExchange$Network" "lastLinks" "LClosExchange$Row;", Cond.methodLink RX1 66 yX4_copyFrom, Cond.instanceMethod yX4_copyFrom, Cond.selects RX4 yX4_copyFrom yX4_copyFrom, Cond.initialized RX4, Cond.code yX4_copyFrom cX4_copyFrom 2 none, Cond.fieldLink RX4 15 "ClosExchange$Row" "cells" "[I", Cond.methodLink RX4 27 Lib.Math.min.name, Cond.methodLink RX4 30 arraycopyName, Cond.native arraycopyName]
def wsX5_recorded_r3 : List Cond := [Cond.static arraycopyName, Cond.initialized "java/lang/System"]
def wsX5_recorded : List Cond := .code yX5_recorded cX5_recorded 2 (some .int) :: ((wsX5_recorded_r1 ++ (wsX5_recorded_r2 ++ wsX5_recorded_r3)) ++ wsX50 ++ wsX00 ++ wsX10 ++ wsX40)
def wsX5_connect_r1 : List Cond := [Cond.fieldLink RX5 16 "ClosExchange" "before" "LClosExchange$Network;", Cond.fieldLink RX5 12 "ClosExchange" "network" "LClosExchange$Network;", Cond.fieldLink RX5 28 "ClosExchange" "router" "LClosExchange$Router;", Cond.methodLink RX5 69 yX1_copyFrom, Cond.instanceMethod yX1_copyFrom, Cond.selects RX1 yX1_copyFrom yX1_copyFrom, Cond.initialized RX1, Cond.code yX1_copyFrom cX1_copyFrom 2 none, Cond.fieldLink RX1 9 "ClosExchange$Network" "boards" "I", Cond.fieldLink RX1 15 "ClosExchange$Network" "lines" "I", Cond.fieldLink RX1 18 "ClosExchange$Network" "middles" "I", Cond.fieldLink RX1 21 "ClosExchange$Network" "service" "I", Cond.fieldLink RX1 48 "ClosExchange$Network" "choiceRule" "I", Cond.fieldLink RX1 51 "ClosExchange$Network" "pairRule" "I", Cond.fieldLink RX1 54 "ClosExchange$Network" "connected" "I", Cond.fieldLink RX1 57 "ClosExchange$Network" "ended" "I", Cond.fieldLink RX1 60 "ClosExchange$Network" "dropped" "I", Cond.fieldLink RX1 63 "ClosExchange$Network" "moved" "I", Cond.fieldLink RX1 29 "ClosExchange$Network" "numbers" "LClosExchange$Row;", Cond.fieldLink RX1 33 "ClosExchange$Network" "outlets" "LClosExchange$Row;", Cond.fieldLink RX1 36 "ClosExchange$Network" "vias" "LClosExchange$Row;", Cond.fieldLink RX1 39 "ClosExchange$Network" "inlets" "LClosExchange$Row;", Cond.fieldLink RX1 42 "ClosExchange$Network" "firstLinks" "LClosExchange$Row;", Cond.fieldLink RX1 45 "ClosExchange$Network" "lastLinks" "LClosExchange$Row;"]
def wsX5_connect_r2 : List Cond := [Cond.methodLink RX1 66 yX4_copyFrom, Cond.instanceMethod yX4_copyFrom, Cond.selects RX4 yX4_copyFrom yX4_copyFrom, Cond.initialized RX4, Cond.code yX4_copyFrom cX4_copyFrom 2 none, Cond.fieldLink RX4 15 "ClosExchange$Row" "cells" "[I", Cond.methodLink RX4 27 Lib.Math.min.name, Cond.static Lib.Math.min.name, Cond.initialized "java/lang/Math", Cond.code Lib.Math.min.name Lib.Math.min.code 2 (some .int), Cond.methodLink RX4 30 arraycopyName, Cond.native arraycopyName, Cond.static arraycopyName, Cond.initialized "java/lang/System", Cond.methodLink RX5 72 yX3_join, Cond.instanceMethod yX3_join, Cond.selects RX3 yX3_join yX3_join, Cond.initialized RX3, Cond.code yX3_join cX3_join 5 (some .int), Cond.methodLink RX3 23 yX3_tryCall, Cond.instanceMethod yX3_tryCall, Cond.selects RX3 yX3_tryCall yX3_tryCall, Cond.code yX3_tryCall cX3_tryCall 4 (some .int), Cond.methodLink RX3 37 yX1_isLine]
def wsX5_connect_r3 : List Cond := [Cond.instanceMethod yX1_isLine, Cond.selects RX1 yX1_isLine yX1_isLine, Cond.code yX1_isLine cX1_isLine 2 (some .boolean), Cond.methodLink RX3 41 yX1_isInletBusy, Cond.instanceMethod yX1_isInletBusy, Cond.selects RX1 yX1_isInletBusy yX1_isInletBusy, Cond.code yX1_isInletBusy cX1_isInletBusy 2 (some .boolean), Cond.methodLink RX1 77 yX4_get, Cond.instanceMethod yX4_get, Cond.selects RX4 yX4_get yX4_get, Cond.code yX4_get cX4_get 2 (some .int), Cond.methodLink RX3 104 yX1_isOutletBusy, Cond.instanceMethod yX1_isOutletBusy, Cond.selects RX1 yX1_isOutletBusy yX1_isOutletBusy, Cond.code yX1_isOutletBusy cX1_isOutletBusy 2 (some .boolean), Cond.methodLink RX3 107 yX3_findWay, Cond.instanceMethod yX3_findWay, Cond.selects RX3 yX3_findWay yX3_findWay, Cond.code yX3_findWay cX3_findWay 7 (some .int), Cond.fieldLink RX3 119 "ClosExchange$Router" "chainLength" "I", Cond.fieldLink RX3 125 "ClosExchange$Network" "firstLinks" "LClosExchange$Row;", Cond.fieldLink RX3 132 "ClosExchange$Network" "lastLinks" "LClosExchange$Row;", Cond.fieldLink RX3 143 "ClosExchange$Router" "pairP" "I", Cond.methodLink RX3 122 yX1_boardOf]
def wsX5_connect_r4 : List Cond := [Cond.instanceMethod yX1_boardOf, Cond.selects RX1 yX1_boardOf yX1_boardOf, Cond.code yX1_boardOf cX1_boardOf 2 (some .int), Cond.methodLink RX3 128 yX1_freeOnLinks, Cond.instanceMethod yX1_freeOnLinks, Cond.selects RX1 yX1_freeOnLinks yX1_freeOnLinks, Cond.code yX1_freeOnLinks cX1_freeOnLinks 5 (some .int), Cond.static yX5_link, Cond.initialized RX5, Cond.code yX5_link cX5_link 2 (some .int), Cond.methodLink RX3 135 yX3_choose, Cond.instanceMethod yX3_choose, Cond.selects RX3 yX3_choose yX3_choose, Cond.code yX3_choose cX3_choose 8 (some .int), Cond.fieldLink RX3 146 "ClosExchange$Network" "choiceRule" "I", Cond.static yX5_hasBit, Cond.code yX5_hasBit cX5_hasBit 2 (some .boolean), Cond.methodLink RX3 149 yX1_loadOf, Cond.instanceMethod yX1_loadOf, Cond.selects RX1 yX1_loadOf yX1_loadOf, Cond.code yX1_loadOf cX1_loadOf 4 (some .int), Cond.methodLink RX3 139 yX3_findPair, Cond.instanceMethod yX3_findPair, Cond.selects RX3 yX3_findPair yX3_findPair]
def wsX5_connect_r5 : List Cond := [Cond.code yX3_findPair cX3_findPair 11 none, Cond.fieldLink RX3 155 "ClosExchange$Network" "pairRule" "I", Cond.methodLink RX3 152 yX3_follow, Cond.instanceMethod yX3_follow, Cond.selects RX3 yX3_follow yX3_follow, Cond.code yX3_follow cX3_follow 9 none, Cond.fieldLink RX3 158 "ClosExchange$Router" "pairQ" "I", Cond.fieldLink RX3 14 "ClosExchange$Router" "chain" "LClosExchange$Row;", Cond.fieldLink RX3 113 "ClosExchange$Network" "outlets" "LClosExchange$Row;", Cond.methodLink RX3 47 yX4_get, Cond.methodLink RX3 164 yX4_set, Cond.instanceMethod yX4_set, Cond.selects RX4 yX4_set yX4_set, Cond.code yX4_set cX4_set 3 none, Cond.methodLink RX3 27 yX1_addCall, Cond.instanceMethod yX1_addCall, Cond.selects RX1 yX1_addCall yX1_addCall, Cond.code yX1_addCall cX1_addCall 3 none, Cond.methodLink RX1 97 yX4_set, Cond.methodLink RX3 33 yX3_settle, Cond.instanceMethod yX3_settle, Cond.selects RX3 yX3_settle yX3_settle, Cond.code yX3_settle cX3_settle 5 none, Cond.fieldLink RX3 87 "ClosExchange$Network" "moved" "I"]
def wsX5_connect_r6 : List Cond := [Cond.methodLink RX3 71 yX1_liftCall, Cond.instanceMethod yX1_liftCall, Cond.selects RX1 yX1_liftCall yX1_liftCall, Cond.code yX1_liftCall cX1_liftCall 3 none, Cond.methodLink RX1 104 yX1_boardOf, Cond.methodLink RX3 167 yX1_carryCall, Cond.instanceMethod yX1_carryCall, Cond.selects RX1 yX1_carryCall yX1_carryCall, Cond.code yX1_carryCall cX1_carryCall 3 none, Cond.methodLink RX5 76 yX5_recorded, Cond.instanceMethod yX5_recorded, Cond.selects RX5 yX5_recorded yX5_recorded, Cond.code yX5_recorded cX5_recorded 2 (some .int), Cond.fieldLink RX5 35 "ClosExchange" "history" "LClosExchange$History;", Cond.methodLink RX5 54 yX0_push, Cond.instanceMethod yX0_push, Cond.selects RX0 yX0_push yX0_push, Cond.initialized RX0, Cond.code yX0_push cX0_push 3 none, Cond.fieldLink RX0 18 "ClosExchange$History" "latest" "I", Cond.fieldLink RX0 30 "ClosExchange$History" "count" "I", Cond.methodLink RX0 33 Lib.Math.min.name, Cond.methodLink RX0 22 yX0_latestState, Cond.instanceMethod yX0_latestState]
def wsX5_connect_r7 : List Cond := [Cond.selects RX0 yX0_latestState yX0_latestState, Cond.code yX0_latestState cX0_latestState 1 (some (.object "ClosExchange$Network")), Cond.fieldLink RX0 11 "ClosExchange$History" "states" "[LClosExchange$Network;", Cond.methodLink RX0 26 yX1_copyFrom]
def wsX5_connect : List Cond := .code yX5_connect cX5_connect 3 (some .int) :: ((wsX5_connect_r1 ++ (wsX5_connect_r2 ++ (wsX5_connect_r3 ++ (wsX5_connect_r4 ++ (wsX5_connect_r5 ++ (wsX5_connect_r6 ++ wsX5_connect_r7)))))) ++ wsX50 ++ wsX10 ++ wsX40 ++ wsX30 ++ wsX00)
def wsX5_disconnect_r1 : List Cond := [Cond.fieldLink RX5 16 "ClosExchange" "before" "LClosExchange$Network;", Cond.fieldLink RX5 12 "ClosExchange" "network" "LClosExchange$Network;", Cond.fieldLink RX5 28 "ClosExchange" "router" "LClosExchange$Router;", Cond.methodLink RX5 69 yX1_copyFrom, Cond.instanceMethod yX1_copyFrom, Cond.selects RX1 yX1_copyFrom yX1_copyFrom, Cond.initialized RX1, Cond.code yX1_copyFrom cX1_copyFrom 2 none, Cond.fieldLink RX1 9 "ClosExchange$Network" "boards" "I", Cond.fieldLink RX1 15 "ClosExchange$Network" "lines" "I", Cond.fieldLink RX1 18 "ClosExchange$Network" "middles" "I", Cond.fieldLink RX1 21 "ClosExchange$Network" "service" "I", Cond.fieldLink RX1 48 "ClosExchange$Network" "choiceRule" "I", Cond.fieldLink RX1 51 "ClosExchange$Network" "pairRule" "I", Cond.fieldLink RX1 54 "ClosExchange$Network" "connected" "I", Cond.fieldLink RX1 57 "ClosExchange$Network" "ended" "I", Cond.fieldLink RX1 60 "ClosExchange$Network" "dropped" "I", Cond.fieldLink RX1 63 "ClosExchange$Network" "moved" "I", Cond.fieldLink RX1 29 "ClosExchange$Network" "numbers" "LClosExchange$Row;", Cond.fieldLink RX1 33 "ClosExchange$Network" "outlets" "LClosExchange$Row;", Cond.fieldLink RX1 36 "ClosExchange$Network" "vias" "LClosExchange$Row;", Cond.fieldLink RX1 39 "ClosExchange$Network" "inlets" "LClosExchange$Row;", Cond.fieldLink RX1 42 "ClosExchange$Network" "firstLinks" "LClosExchange$Row;", Cond.fieldLink RX1 45 "ClosExchange$Network" "lastLinks" "LClosExchange$Row;"]
def wsX5_disconnect_r2 : List Cond := [Cond.methodLink RX1 66 yX4_copyFrom, Cond.instanceMethod yX4_copyFrom, Cond.selects RX4 yX4_copyFrom yX4_copyFrom, Cond.initialized RX4, Cond.code yX4_copyFrom cX4_copyFrom 2 none, Cond.fieldLink RX4 15 "ClosExchange$Row" "cells" "[I", Cond.methodLink RX4 27 Lib.Math.min.name, Cond.static Lib.Math.min.name, Cond.initialized "java/lang/Math", Cond.code Lib.Math.min.name Lib.Math.min.code 2 (some .int), Cond.methodLink RX4 30 arraycopyName, Cond.native arraycopyName, Cond.static arraycopyName, Cond.initialized "java/lang/System", Cond.methodLink RX5 80 yX3_part, Cond.instanceMethod yX3_part, Cond.selects RX3 yX3_part yX3_part, Cond.initialized RX3, Cond.code yX3_part cX3_part 4 (some .int), Cond.fieldLink RX3 44 "ClosExchange$Network" "numbers" "LClosExchange$Row;", Cond.fieldLink RX3 54 "ClosExchange$Network" "ended" "I", Cond.methodLink RX3 37 yX1_isLine, Cond.instanceMethod yX1_isLine, Cond.selects RX1 yX1_isLine yX1_isLine]
def wsX5_disconnect_r3 : List Cond := [Cond.code yX1_isLine cX1_isLine 2 (some .boolean), Cond.methodLink RX3 41 yX1_isInletBusy, Cond.instanceMethod yX1_isInletBusy, Cond.selects RX1 yX1_isInletBusy yX1_isInletBusy, Cond.code yX1_isInletBusy cX1_isInletBusy 2 (some .boolean), Cond.methodLink RX1 77 yX4_get, Cond.instanceMethod yX4_get, Cond.selects RX4 yX4_get yX4_get, Cond.code yX4_get cX4_get 2 (some .int), Cond.methodLink RX3 47 yX4_get, Cond.methodLink RX3 51 yX1_removeCall, Cond.instanceMethod yX1_removeCall, Cond.selects RX1 yX1_removeCall yX1_removeCall, Cond.code yX1_removeCall cX1_removeCall 2 none, Cond.methodLink RX1 101 yX1_liftCall, Cond.instanceMethod yX1_liftCall, Cond.selects RX1 yX1_liftCall yX1_liftCall, Cond.code yX1_liftCall cX1_liftCall 3 none, Cond.methodLink RX1 104 yX1_boardOf, Cond.instanceMethod yX1_boardOf, Cond.selects RX1 yX1_boardOf yX1_boardOf, Cond.code yX1_boardOf cX1_boardOf 2 (some .int), Cond.static yX5_link, Cond.initialized RX5]
def wsX5_disconnect_r4 : List Cond := [Cond.code yX5_link cX5_link 2 (some .int), Cond.methodLink RX1 97 yX4_set, Cond.instanceMethod yX4_set, Cond.selects RX4 yX4_set yX4_set, Cond.code yX4_set cX4_set 3 none, Cond.methodLink RX5 76 yX5_recorded, Cond.instanceMethod yX5_recorded, Cond.selects RX5 yX5_recorded yX5_recorded, Cond.code yX5_recorded cX5_recorded 2 (some .int), Cond.fieldLink RX5 35 "ClosExchange" "history" "LClosExchange$History;", Cond.methodLink RX5 54 yX0_push, Cond.instanceMethod yX0_push, Cond.selects RX0 yX0_push yX0_push, Cond.initialized RX0, Cond.code yX0_push cX0_push 3 none, Cond.fieldLink RX0 18 "ClosExchange$History" "latest" "I", Cond.fieldLink RX0 30 "ClosExchange$History" "count" "I", Cond.methodLink RX0 33 Lib.Math.min.name, Cond.methodLink RX0 22 yX0_latestState, Cond.instanceMethod yX0_latestState, Cond.selects RX0 yX0_latestState yX0_latestState, Cond.code yX0_latestState cX0_latestState 1 (some (.object "ClosExchange$Network")), Cond.fieldLink RX0 11 "ClosExchange$History" "states" "[LClosExchange$Network;", Cond.methodLink RX0 26 yX1_copyFrom]
def wsX5_disconnect : List Cond := .code yX5_disconnect cX5_disconnect 2 (some .int) :: ((wsX5_disconnect_r1 ++ (wsX5_disconnect_r2 ++ (wsX5_disconnect_r3 ++ wsX5_disconnect_r4))) ++ wsX50 ++ wsX10 ++ wsX40 ++ wsX00)
def wsX5_takeOut_r1 : List Cond := [Cond.fieldLink RX5 16 "ClosExchange" "before" "LClosExchange$Network;", Cond.fieldLink RX5 12 "ClosExchange" "network" "LClosExchange$Network;", Cond.fieldLink RX5 28 "ClosExchange" "router" "LClosExchange$Router;", Cond.methodLink RX5 69 yX1_copyFrom, Cond.instanceMethod yX1_copyFrom, Cond.selects RX1 yX1_copyFrom yX1_copyFrom, Cond.initialized RX1, Cond.code yX1_copyFrom cX1_copyFrom 2 none, Cond.fieldLink RX1 9 "ClosExchange$Network" "boards" "I", Cond.fieldLink RX1 15 "ClosExchange$Network" "lines" "I", Cond.fieldLink RX1 18 "ClosExchange$Network" "middles" "I", Cond.fieldLink RX1 21 "ClosExchange$Network" "service" "I", Cond.fieldLink RX1 48 "ClosExchange$Network" "choiceRule" "I", Cond.fieldLink RX1 51 "ClosExchange$Network" "pairRule" "I", Cond.fieldLink RX1 54 "ClosExchange$Network" "connected" "I", Cond.fieldLink RX1 57 "ClosExchange$Network" "ended" "I", Cond.fieldLink RX1 60 "ClosExchange$Network" "dropped" "I", Cond.fieldLink RX1 63 "ClosExchange$Network" "moved" "I", Cond.fieldLink RX1 29 "ClosExchange$Network" "numbers" "LClosExchange$Row;", Cond.fieldLink RX1 33 "ClosExchange$Network" "outlets" "LClosExchange$Row;", Cond.fieldLink RX1 36 "ClosExchange$Network" "vias" "LClosExchange$Row;", Cond.fieldLink RX1 39 "ClosExchange$Network" "inlets" "LClosExchange$Row;", Cond.fieldLink RX1 42 "ClosExchange$Network" "firstLinks" "LClosExchange$Row;", Cond.fieldLink RX1 45 "ClosExchange$Network" "lastLinks" "LClosExchange$Row;"]
def wsX5_takeOut_r2 : List Cond := [Cond.methodLink RX1 66 yX4_copyFrom, Cond.instanceMethod yX4_copyFrom, Cond.selects RX4 yX4_copyFrom yX4_copyFrom, Cond.initialized RX4, Cond.code yX4_copyFrom cX4_copyFrom 2 none, Cond.fieldLink RX4 15 "ClosExchange$Row" "cells" "[I", Cond.methodLink RX4 27 Lib.Math.min.name, Cond.static Lib.Math.min.name, Cond.initialized "java/lang/Math", Cond.code Lib.Math.min.name Lib.Math.min.code 2 (some .int), Cond.methodLink RX4 30 arraycopyName, Cond.native arraycopyName, Cond.static arraycopyName, Cond.initialized "java/lang/System", Cond.methodLink RX5 84 yX3_retire, Cond.instanceMethod yX3_retire, Cond.selects RX3 yX3_retire yX3_retire, Cond.initialized RX3, Cond.code yX3_retire cX3_retire 4 (some .int), Cond.fieldLink RX3 61 "ClosExchange$Network" "service" "I", Cond.fieldLink RX3 68 "ClosExchange$Network" "vias" "LClosExchange$Row;", Cond.methodLink RX3 58 yX1_isMiddle, Cond.instanceMethod yX1_isMiddle, Cond.selects RX1 yX1_isMiddle yX1_isMiddle]
def wsX5_takeOut_r3 : List Cond := [Cond.code yX1_isMiddle cX1_isMiddle 2 (some .boolean), Cond.static yX5_hasBit, Cond.initialized RX5, Cond.code yX5_hasBit cX5_hasBit 2 (some .boolean), Cond.methodLink RX3 47 yX4_get, Cond.instanceMethod yX4_get, Cond.selects RX4 yX4_get yX4_get, Cond.code yX4_get cX4_get 2 (some .int), Cond.methodLink RX3 71 yX1_liftCall, Cond.instanceMethod yX1_liftCall, Cond.selects RX1 yX1_liftCall yX1_liftCall, Cond.code yX1_liftCall cX1_liftCall 3 none, Cond.methodLink RX1 77 yX4_get, Cond.methodLink RX1 104 yX1_boardOf, Cond.instanceMethod yX1_boardOf, Cond.selects RX1 yX1_boardOf yX1_boardOf, Cond.code yX1_boardOf cX1_boardOf 2 (some .int), Cond.static yX5_link, Cond.code yX5_link cX5_link 2 (some .int), Cond.methodLink RX1 97 yX4_set, Cond.instanceMethod yX4_set, Cond.selects RX4 yX4_set yX4_set, Cond.code yX4_set cX4_set 3 none, Cond.methodLink RX3 74 yX3_reroute]
def wsX5_takeOut_r4 : List Cond := [Cond.instanceMethod yX3_reroute, Cond.selects RX3 yX3_reroute yX3_reroute, Cond.code yX3_reroute cX3_reroute 6 (some .int), Cond.fieldLink RX3 113 "ClosExchange$Network" "outlets" "LClosExchange$Row;", Cond.fieldLink RX3 87 "ClosExchange$Network" "moved" "I", Cond.fieldLink RX3 116 "ClosExchange$Network" "dropped" "I", Cond.methodLink RX3 110 yX1_firstLifted, Cond.instanceMethod yX1_firstLifted, Cond.selects RX1 yX1_firstLifted yX1_firstLifted, Cond.code yX1_firstLifted cX1_firstLifted 3 (some .int), Cond.methodLink RX1 85 yX1_isInletBusy, Cond.instanceMethod yX1_isInletBusy, Cond.selects RX1 yX1_isInletBusy yX1_isInletBusy, Cond.code yX1_isInletBusy cX1_isInletBusy 2 (some .boolean), Cond.methodLink RX3 107 yX3_findWay, Cond.instanceMethod yX3_findWay, Cond.selects RX3 yX3_findWay yX3_findWay, Cond.code yX3_findWay cX3_findWay 7 (some .int), Cond.fieldLink RX3 119 "ClosExchange$Router" "chainLength" "I", Cond.fieldLink RX3 125 "ClosExchange$Network" "firstLinks" "LClosExchange$Row;", Cond.fieldLink RX3 132 "ClosExchange$Network" "lastLinks" "LClosExchange$Row;", Cond.fieldLink RX3 143 "ClosExchange$Router" "pairP" "I", Cond.methodLink RX3 122 yX1_boardOf, Cond.methodLink RX3 128 yX1_freeOnLinks]
def wsX5_takeOut_r5 : List Cond := [Cond.instanceMethod yX1_freeOnLinks, Cond.selects RX1 yX1_freeOnLinks yX1_freeOnLinks, Cond.code yX1_freeOnLinks cX1_freeOnLinks 5 (some .int), Cond.methodLink RX3 135 yX3_choose, Cond.instanceMethod yX3_choose, Cond.selects RX3 yX3_choose yX3_choose, Cond.code yX3_choose cX3_choose 8 (some .int), Cond.fieldLink RX3 146 "ClosExchange$Network" "choiceRule" "I", Cond.methodLink RX3 149 yX1_loadOf, Cond.instanceMethod yX1_loadOf, Cond.selects RX1 yX1_loadOf yX1_loadOf, Cond.code yX1_loadOf cX1_loadOf 4 (some .int), Cond.methodLink RX3 139 yX3_findPair, Cond.instanceMethod yX3_findPair, Cond.selects RX3 yX3_findPair yX3_findPair, Cond.code yX3_findPair cX3_findPair 11 none, Cond.fieldLink RX3 155 "ClosExchange$Network" "pairRule" "I", Cond.methodLink RX3 152 yX3_follow, Cond.instanceMethod yX3_follow, Cond.selects RX3 yX3_follow yX3_follow, Cond.code yX3_follow cX3_follow 9 none, Cond.fieldLink RX3 158 "ClosExchange$Router" "pairQ" "I", Cond.fieldLink RX3 14 "ClosExchange$Router" "chain" "LClosExchange$Row;", Cond.methodLink RX3 164 yX4_set]
def wsX5_takeOut_r6 : List Cond := [Cond.methodLink RX3 51 yX1_removeCall, Cond.instanceMethod yX1_removeCall, Cond.selects RX1 yX1_removeCall yX1_removeCall, Cond.code yX1_removeCall cX1_removeCall 2 none, Cond.methodLink RX1 101 yX1_liftCall, Cond.methodLink RX3 33 yX3_settle, Cond.instanceMethod yX3_settle, Cond.selects RX3 yX3_settle yX3_settle, Cond.code yX3_settle cX3_settle 5 none, Cond.methodLink RX3 167 yX1_carryCall, Cond.instanceMethod yX1_carryCall, Cond.selects RX1 yX1_carryCall yX1_carryCall, Cond.code yX1_carryCall cX1_carryCall 3 none, Cond.methodLink RX5 76 yX5_recorded, Cond.instanceMethod yX5_recorded, Cond.selects RX5 yX5_recorded yX5_recorded, Cond.code yX5_recorded cX5_recorded 2 (some .int), Cond.fieldLink RX5 35 "ClosExchange" "history" "LClosExchange$History;", Cond.methodLink RX5 54 yX0_push, Cond.instanceMethod yX0_push, Cond.selects RX0 yX0_push yX0_push, Cond.initialized RX0, Cond.code yX0_push cX0_push 3 none, Cond.fieldLink RX0 18 "ClosExchange$History" "latest" "I"]
def wsX5_takeOut_r7 : List Cond := [Cond.fieldLink RX0 30 "ClosExchange$History" "count" "I", Cond.methodLink RX0 33 Lib.Math.min.name, Cond.methodLink RX0 22 yX0_latestState, Cond.instanceMethod yX0_latestState, Cond.selects RX0 yX0_latestState yX0_latestState, Cond.code yX0_latestState cX0_latestState 1 (some (.object "ClosExchange$Network")), Cond.fieldLink RX0 11 "ClosExchange$History" "states" "[LClosExchange$Network;", Cond.methodLink RX0 26 yX1_copyFrom]
def wsX5_takeOut : List Cond := .code yX5_takeOut cX5_takeOut 2 (some .int) :: ((wsX5_takeOut_r1 ++ (wsX5_takeOut_r2 ++ (wsX5_takeOut_r3 ++ (wsX5_takeOut_r4 ++ (wsX5_takeOut_r5 ++ (wsX5_takeOut_r6 ++ wsX5_takeOut_r7)))))) ++ wsX50 ++ wsX10 ++ wsX40 ++ wsX30 ++ wsX00)
def wsX5_putBack_r1 : List Cond := [Cond.fieldLink RX5 16 "ClosExchange" "before" "LClosExchange$Network;", Cond.fieldLink RX5 12 "ClosExchange" "network" "LClosExchange$Network;", Cond.fieldLink RX5 28 "ClosExchange" "router" "LClosExchange$Router;", Cond.methodLink RX5 69 yX1_copyFrom, Cond.instanceMethod yX1_copyFrom, Cond.selects RX1 yX1_copyFrom yX1_copyFrom, Cond.initialized RX1, Cond.code yX1_copyFrom cX1_copyFrom 2 none, Cond.fieldLink RX1 9 "ClosExchange$Network" "boards" "I", Cond.fieldLink RX1 15 "ClosExchange$Network" "lines" "I", Cond.fieldLink RX1 18 "ClosExchange$Network" "middles" "I", Cond.fieldLink RX1 21 "ClosExchange$Network" "service" "I", Cond.fieldLink RX1 48 "ClosExchange$Network" "choiceRule" "I", Cond.fieldLink RX1 51 "ClosExchange$Network" "pairRule" "I", Cond.fieldLink RX1 54 "ClosExchange$Network" "connected" "I", Cond.fieldLink RX1 57 "ClosExchange$Network" "ended" "I", Cond.fieldLink RX1 60 "ClosExchange$Network" "dropped" "I", Cond.fieldLink RX1 63 "ClosExchange$Network" "moved" "I", Cond.fieldLink RX1 29 "ClosExchange$Network" "numbers" "LClosExchange$Row;", Cond.fieldLink RX1 33 "ClosExchange$Network" "outlets" "LClosExchange$Row;", Cond.fieldLink RX1 36 "ClosExchange$Network" "vias" "LClosExchange$Row;", Cond.fieldLink RX1 39 "ClosExchange$Network" "inlets" "LClosExchange$Row;", Cond.fieldLink RX1 42 "ClosExchange$Network" "firstLinks" "LClosExchange$Row;", Cond.fieldLink RX1 45 "ClosExchange$Network" "lastLinks" "LClosExchange$Row;"]
def wsX5_putBack_r2 : List Cond := [Cond.methodLink RX1 66 yX4_copyFrom, Cond.instanceMethod yX4_copyFrom, Cond.selects RX4 yX4_copyFrom yX4_copyFrom, Cond.initialized RX4, Cond.code yX4_copyFrom cX4_copyFrom 2 none, Cond.fieldLink RX4 15 "ClosExchange$Row" "cells" "[I", Cond.methodLink RX4 27 Lib.Math.min.name, Cond.static Lib.Math.min.name, Cond.initialized "java/lang/Math", Cond.code Lib.Math.min.name Lib.Math.min.code 2 (some .int), Cond.methodLink RX4 30 arraycopyName, Cond.native arraycopyName, Cond.static arraycopyName, Cond.initialized "java/lang/System", Cond.methodLink RX5 87 yX3_revive, Cond.instanceMethod yX3_revive, Cond.selects RX3 yX3_revive yX3_revive, Cond.initialized RX3, Cond.code yX3_revive cX3_revive 3 (some .int), Cond.fieldLink RX3 61 "ClosExchange$Network" "service" "I", Cond.methodLink RX3 58 yX1_isMiddle, Cond.instanceMethod yX1_isMiddle, Cond.selects RX1 yX1_isMiddle yX1_isMiddle, Cond.code yX1_isMiddle cX1_isMiddle 2 (some .boolean)]
def wsX5_putBack_r3 : List Cond := [Cond.static yX5_hasBit, Cond.initialized RX5, Cond.code yX5_hasBit cX5_hasBit 2 (some .boolean), Cond.methodLink RX3 78 yJ6_bitCount_0f7a4, Cond.static yJ6_bitCount_0f7a4, Cond.initialized RJ6, Cond.code yJ6_bitCount_0f7a4 cJ6_bitCount_0f7a4 1 (some .int), Cond.constant RJ6 265 (1431655765), Cond.constant RJ6 266 (858993459), Cond.constant RJ6 267 (252645135), Cond.methodLink RX5 76 yX5_recorded, Cond.instanceMethod yX5_recorded, Cond.selects RX5 yX5_recorded yX5_recorded, Cond.code yX5_recorded cX5_recorded 2 (some .int), Cond.fieldLink RX5 35 "ClosExchange" "history" "LClosExchange$History;", Cond.methodLink RX5 54 yX0_push, Cond.instanceMethod yX0_push, Cond.selects RX0 yX0_push yX0_push, Cond.initialized RX0, Cond.code yX0_push cX0_push 3 none, Cond.fieldLink RX0 18 "ClosExchange$History" "latest" "I", Cond.fieldLink RX0 30 "ClosExchange$History" "count" "I", Cond.methodLink RX0 33 Lib.Math.min.name, Cond.methodLink RX0 22 yX0_latestState]
def wsX5_putBack_r4 : List Cond := [Cond.instanceMethod yX0_latestState, Cond.selects RX0 yX0_latestState yX0_latestState, Cond.code yX0_latestState cX0_latestState 1 (some (.object "ClosExchange$Network")), Cond.fieldLink RX0 11 "ClosExchange$History" "states" "[LClosExchange$Network;", Cond.methodLink RX0 26 yX1_copyFrom]
def wsX5_putBack : List Cond := .code yX5_putBack cX5_putBack 2 (some .int) :: ((wsX5_putBack_r1 ++ (wsX5_putBack_r2 ++ (wsX5_putBack_r3 ++ wsX5_putBack_r4))) ++ wsX50 ++ wsX10 ++ wsX40 ++ wsX00)
def wsX5_pack_r1 : List Cond := [Cond.fieldLink RX5 16 "ClosExchange" "before" "LClosExchange$Network;", Cond.fieldLink RX5 12 "ClosExchange" "network" "LClosExchange$Network;", Cond.fieldLink RX5 28 "ClosExchange" "router" "LClosExchange$Router;", Cond.methodLink RX5 69 yX1_copyFrom, Cond.instanceMethod yX1_copyFrom, Cond.selects RX1 yX1_copyFrom yX1_copyFrom, Cond.initialized RX1, Cond.code yX1_copyFrom cX1_copyFrom 2 none, Cond.fieldLink RX1 9 "ClosExchange$Network" "boards" "I", Cond.fieldLink RX1 15 "ClosExchange$Network" "lines" "I", Cond.fieldLink RX1 18 "ClosExchange$Network" "middles" "I", Cond.fieldLink RX1 21 "ClosExchange$Network" "service" "I", Cond.fieldLink RX1 48 "ClosExchange$Network" "choiceRule" "I", Cond.fieldLink RX1 51 "ClosExchange$Network" "pairRule" "I", Cond.fieldLink RX1 54 "ClosExchange$Network" "connected" "I", Cond.fieldLink RX1 57 "ClosExchange$Network" "ended" "I", Cond.fieldLink RX1 60 "ClosExchange$Network" "dropped" "I", Cond.fieldLink RX1 63 "ClosExchange$Network" "moved" "I", Cond.fieldLink RX1 29 "ClosExchange$Network" "numbers" "LClosExchange$Row;", Cond.fieldLink RX1 33 "ClosExchange$Network" "outlets" "LClosExchange$Row;", Cond.fieldLink RX1 36 "ClosExchange$Network" "vias" "LClosExchange$Row;", Cond.fieldLink RX1 39 "ClosExchange$Network" "inlets" "LClosExchange$Row;", Cond.fieldLink RX1 42 "ClosExchange$Network" "firstLinks" "LClosExchange$Row;", Cond.fieldLink RX1 45 "ClosExchange$Network" "lastLinks" "LClosExchange$Row;"]
def wsX5_pack_r2 : List Cond := [Cond.methodLink RX1 66 yX4_copyFrom, Cond.instanceMethod yX4_copyFrom, Cond.selects RX4 yX4_copyFrom yX4_copyFrom, Cond.initialized RX4, Cond.code yX4_copyFrom cX4_copyFrom 2 none, Cond.fieldLink RX4 15 "ClosExchange$Row" "cells" "[I", Cond.methodLink RX4 27 Lib.Math.min.name, Cond.static Lib.Math.min.name, Cond.initialized "java/lang/Math", Cond.code Lib.Math.min.name Lib.Math.min.code 2 (some .int), Cond.methodLink RX4 30 arraycopyName, Cond.native arraycopyName, Cond.static arraycopyName, Cond.initialized "java/lang/System", Cond.methodLink RX5 90 yX3_repack, Cond.instanceMethod yX3_repack, Cond.selects RX3 yX3_repack yX3_repack, Cond.initialized RX3, Cond.code yX3_repack cX3_repack 5 (some .int), Cond.fieldLink RX3 61 "ClosExchange$Network" "service" "I", Cond.fieldLink RX3 87 "ClosExchange$Network" "moved" "I", Cond.fieldLink RX3 20 "ClosExchange$Router" "formerVias" "LClosExchange$Row;", Cond.fieldLink RX3 68 "ClosExchange$Network" "vias" "LClosExchange$Row;", Cond.methodLink RX3 83 yX1_countCalls]
def wsX5_pack_r3 : List Cond := [Cond.instanceMethod yX1_countCalls, Cond.selects RX1 yX1_countCalls yX1_countCalls, Cond.code yX1_countCalls cX1_countCalls 3 (some .int), Cond.methodLink RX1 77 yX4_get, Cond.instanceMethod yX4_get, Cond.selects RX4 yX4_get yX4_get, Cond.code yX4_get cX4_get 2 (some .int), Cond.methodLink RX3 90 yX1_fullestBoard, Cond.instanceMethod yX1_fullestBoard, Cond.selects RX1 yX1_fullestBoard yX1_fullestBoard, Cond.code yX1_fullestBoard cX1_fullestBoard 6 (some .int), Cond.methodLink RX1 92 Lib.Math.max.name, Cond.static Lib.Math.max.name, Cond.code Lib.Math.max.name Lib.Math.max.code 2 (some .int), Cond.methodLink RX1 85 yX1_isInletBusy, Cond.instanceMethod yX1_isInletBusy, Cond.selects RX1 yX1_isInletBusy yX1_isInletBusy, Cond.code yX1_isInletBusy cX1_isInletBusy 2 (some .boolean), Cond.methodLink RX1 89 yX1_isOutletBusy, Cond.instanceMethod yX1_isOutletBusy, Cond.selects RX1 yX1_isOutletBusy yX1_isOutletBusy, Cond.code yX1_isOutletBusy cX1_isOutletBusy 2 (some .boolean), Cond.methodLink RX3 93 yX3_lowestBits, Cond.static yX3_lowestBits]
def wsX5_pack_r4 : List Cond := [Cond.code yX3_lowestBits cX3_lowestBits 5 (some .int), Cond.static yX5_hasBit, Cond.initialized RX5, Cond.code yX5_hasBit cX5_hasBit 2 (some .boolean), Cond.methodLink RX3 97 yX4_copyFrom, Cond.methodLink RX3 71 yX1_liftCall, Cond.instanceMethod yX1_liftCall, Cond.selects RX1 yX1_liftCall yX1_liftCall, Cond.code yX1_liftCall cX1_liftCall 3 none, Cond.methodLink RX1 104 yX1_boardOf, Cond.instanceMethod yX1_boardOf, Cond.selects RX1 yX1_boardOf yX1_boardOf, Cond.code yX1_boardOf cX1_boardOf 2 (some .int), Cond.static yX5_link, Cond.code yX5_link cX5_link 2 (some .int), Cond.methodLink RX1 97 yX4_set, Cond.instanceMethod yX4_set, Cond.selects RX4 yX4_set yX4_set, Cond.code yX4_set cX4_set 3 none, Cond.methodLink RX3 74 yX3_reroute, Cond.instanceMethod yX3_reroute, Cond.selects RX3 yX3_reroute yX3_reroute, Cond.code yX3_reroute cX3_reroute 6 (some .int), Cond.fieldLink RX3 113 "ClosExchange$Network" "outlets" "LClosExchange$Row;"]
def wsX5_pack_r5 : List Cond := [Cond.fieldLink RX3 116 "ClosExchange$Network" "dropped" "I", Cond.methodLink RX3 110 yX1_firstLifted, Cond.instanceMethod yX1_firstLifted, Cond.selects RX1 yX1_firstLifted yX1_firstLifted, Cond.code yX1_firstLifted cX1_firstLifted 3 (some .int), Cond.methodLink RX3 47 yX4_get, Cond.methodLink RX3 107 yX3_findWay, Cond.instanceMethod yX3_findWay, Cond.selects RX3 yX3_findWay yX3_findWay, Cond.code yX3_findWay cX3_findWay 7 (some .int), Cond.fieldLink RX3 119 "ClosExchange$Router" "chainLength" "I", Cond.fieldLink RX3 125 "ClosExchange$Network" "firstLinks" "LClosExchange$Row;", Cond.fieldLink RX3 132 "ClosExchange$Network" "lastLinks" "LClosExchange$Row;", Cond.fieldLink RX3 143 "ClosExchange$Router" "pairP" "I", Cond.methodLink RX3 122 yX1_boardOf, Cond.methodLink RX3 128 yX1_freeOnLinks, Cond.instanceMethod yX1_freeOnLinks, Cond.selects RX1 yX1_freeOnLinks yX1_freeOnLinks, Cond.code yX1_freeOnLinks cX1_freeOnLinks 5 (some .int), Cond.methodLink RX3 135 yX3_choose, Cond.instanceMethod yX3_choose, Cond.selects RX3 yX3_choose yX3_choose, Cond.code yX3_choose cX3_choose 8 (some .int), Cond.fieldLink RX3 146 "ClosExchange$Network" "choiceRule" "I"]
def wsX5_pack_r6 : List Cond := [Cond.methodLink RX3 149 yX1_loadOf, Cond.instanceMethod yX1_loadOf, Cond.selects RX1 yX1_loadOf yX1_loadOf, Cond.code yX1_loadOf cX1_loadOf 4 (some .int), Cond.methodLink RX3 139 yX3_findPair, Cond.instanceMethod yX3_findPair, Cond.selects RX3 yX3_findPair yX3_findPair, Cond.code yX3_findPair cX3_findPair 11 none, Cond.fieldLink RX3 155 "ClosExchange$Network" "pairRule" "I", Cond.methodLink RX3 152 yX3_follow, Cond.instanceMethod yX3_follow, Cond.selects RX3 yX3_follow yX3_follow, Cond.code yX3_follow cX3_follow 9 none, Cond.fieldLink RX3 158 "ClosExchange$Router" "pairQ" "I", Cond.fieldLink RX3 14 "ClosExchange$Router" "chain" "LClosExchange$Row;", Cond.methodLink RX3 164 yX4_set, Cond.methodLink RX3 51 yX1_removeCall, Cond.instanceMethod yX1_removeCall, Cond.selects RX1 yX1_removeCall yX1_removeCall, Cond.code yX1_removeCall cX1_removeCall 2 none, Cond.methodLink RX1 101 yX1_liftCall, Cond.methodLink RX3 33 yX3_settle, Cond.instanceMethod yX3_settle, Cond.selects RX3 yX3_settle yX3_settle]
def wsX5_pack_r7 : List Cond := [Cond.code yX3_settle cX3_settle 5 none, Cond.methodLink RX3 167 yX1_carryCall, Cond.instanceMethod yX1_carryCall, Cond.selects RX1 yX1_carryCall yX1_carryCall, Cond.code yX1_carryCall cX1_carryCall 3 none, Cond.methodLink RX3 101 yX3_countChanged, Cond.instanceMethod yX3_countChanged, Cond.selects RX3 yX3_countChanged yX3_countChanged, Cond.code yX3_countChanged cX3_countChanged 4 (some .int), Cond.methodLink RX5 76 yX5_recorded, Cond.instanceMethod yX5_recorded, Cond.selects RX5 yX5_recorded yX5_recorded, Cond.code yX5_recorded cX5_recorded 2 (some .int), Cond.fieldLink RX5 35 "ClosExchange" "history" "LClosExchange$History;", Cond.methodLink RX5 54 yX0_push, Cond.instanceMethod yX0_push, Cond.selects RX0 yX0_push yX0_push, Cond.initialized RX0, Cond.code yX0_push cX0_push 3 none, Cond.fieldLink RX0 18 "ClosExchange$History" "latest" "I", Cond.fieldLink RX0 30 "ClosExchange$History" "count" "I", Cond.methodLink RX0 33 Lib.Math.min.name, Cond.methodLink RX0 22 yX0_latestState, Cond.instanceMethod yX0_latestState]
def wsX5_pack_r8 : List Cond := [Cond.selects RX0 yX0_latestState yX0_latestState, Cond.code yX0_latestState cX0_latestState 1 (some (.object "ClosExchange$Network")), Cond.fieldLink RX0 11 "ClosExchange$History" "states" "[LClosExchange$Network;", Cond.methodLink RX0 26 yX1_copyFrom]
def wsX5_pack : List Cond := .code yX5_pack cX5_pack 1 (some .int) :: ((wsX5_pack_r1 ++ (wsX5_pack_r2 ++ (wsX5_pack_r3 ++ (wsX5_pack_r4 ++ (wsX5_pack_r5 ++ (wsX5_pack_r6 ++ (wsX5_pack_r7 ++ wsX5_pack_r8))))))) ++ wsX50 ++ wsX10 ++ wsX40 ++ wsX30 ++ wsX00)
def wsX5_type : List Cond := .code yX5_type cX5_type 2 (some .int) :: ([.fieldLink RX5 42 "ClosExchange" "text" "LClosExchange$OrderText;", .methodLink RX5 94 yX2_append, .instanceMethod yX2_append, .selects RX2 yX2_append yX2_append, .initialized RX2, .code yX2_append cX2_append 2 (some .int), .fieldLink RX2 20 "ClosExchange$OrderText" "length" "I", .fieldLink RX2 14 "ClosExchange$OrderText" "signs" "LClosExchange$Row;", .methodLink RX2 24 yX4_set, .instanceMethod yX4_set, .selects RX4 yX4_set yX4_set, .initialized RX4, .code yX4_set cX4_set 3 none, .fieldLink RX4 15 "ClosExchange$Row" "cells" "[I"] ++ wsX50 ++ wsX20 ++ wsX40)
def wsX5_clearText : List Cond := .code yX5_clearText cX5_clearText 2 (some .int) :: ([.fieldLink RX5 42 "ClosExchange" "text" "LClosExchange$OrderText;", .fieldLink RX5 97 "ClosExchange$OrderText" "length" "I"] ++ wsX50 ++ wsX20)
def wsX5_obey_r1 : List Cond := [Cond.fieldLink RX5 42 "ClosExchange" "text" "LClosExchange$OrderText;", Cond.fieldLink RX5 219 "ClosExchange$OrderText" "kind" "I", Cond.fieldLink RX5 28 "ClosExchange" "router" "LClosExchange$Router;", Cond.fieldLink RX5 12 "ClosExchange" "network" "LClosExchange$Network;", Cond.fieldLink RX5 222 "ClosExchange$OrderText" "first" "I", Cond.fieldLink RX5 225 "ClosExchange$OrderText" "second" "I", Cond.methodLink RX5 72 yX3_join, Cond.instanceMethod yX3_join, Cond.selects RX3 yX3_join yX3_join, Cond.initialized RX3, Cond.code yX3_join cX3_join 5 (some .int), Cond.methodLink RX3 23 yX3_tryCall, Cond.instanceMethod yX3_tryCall, Cond.selects RX3 yX3_tryCall yX3_tryCall, Cond.code yX3_tryCall cX3_tryCall 4 (some .int), Cond.methodLink RX3 37 yX1_isLine, Cond.instanceMethod yX1_isLine, Cond.selects RX1 yX1_isLine yX1_isLine, Cond.initialized RX1, Cond.code yX1_isLine cX1_isLine 2 (some .boolean), Cond.fieldLink RX1 9 "ClosExchange$Network" "boards" "I", Cond.fieldLink RX1 15 "ClosExchange$Network" "lines" "I", Cond.methodLink RX3 41 yX1_isInletBusy, Cond.instanceMethod yX1_isInletBusy]
def wsX5_obey_r2 : List Cond := [Cond.selects RX1 yX1_isInletBusy yX1_isInletBusy, Cond.code yX1_isInletBusy cX1_isInletBusy 2 (some .boolean), Cond.fieldLink RX1 29 "ClosExchange$Network" "numbers" "LClosExchange$Row;", Cond.methodLink RX1 77 yX4_get, Cond.instanceMethod yX4_get, Cond.selects RX4 yX4_get yX4_get, Cond.initialized RX4, Cond.code yX4_get cX4_get 2 (some .int), Cond.fieldLink RX4 15 "ClosExchange$Row" "cells" "[I", Cond.methodLink RX3 104 yX1_isOutletBusy, Cond.instanceMethod yX1_isOutletBusy, Cond.selects RX1 yX1_isOutletBusy yX1_isOutletBusy, Cond.code yX1_isOutletBusy cX1_isOutletBusy 2 (some .boolean), Cond.fieldLink RX1 39 "ClosExchange$Network" "inlets" "LClosExchange$Row;", Cond.methodLink RX3 107 yX3_findWay, Cond.instanceMethod yX3_findWay, Cond.selects RX3 yX3_findWay yX3_findWay, Cond.code yX3_findWay cX3_findWay 7 (some .int), Cond.fieldLink RX3 119 "ClosExchange$Router" "chainLength" "I", Cond.fieldLink RX3 125 "ClosExchange$Network" "firstLinks" "LClosExchange$Row;", Cond.fieldLink RX3 132 "ClosExchange$Network" "lastLinks" "LClosExchange$Row;", Cond.fieldLink RX3 143 "ClosExchange$Router" "pairP" "I", Cond.methodLink RX3 122 yX1_boardOf, Cond.instanceMethod yX1_boardOf]
def wsX5_obey_r3 : List Cond := [Cond.selects RX1 yX1_boardOf yX1_boardOf, Cond.code yX1_boardOf cX1_boardOf 2 (some .int), Cond.methodLink RX3 128 yX1_freeOnLinks, Cond.instanceMethod yX1_freeOnLinks, Cond.selects RX1 yX1_freeOnLinks yX1_freeOnLinks, Cond.code yX1_freeOnLinks cX1_freeOnLinks 5 (some .int), Cond.fieldLink RX1 18 "ClosExchange$Network" "middles" "I", Cond.fieldLink RX1 21 "ClosExchange$Network" "service" "I", Cond.static yX5_link, Cond.initialized RX5, Cond.code yX5_link cX5_link 2 (some .int), Cond.methodLink RX3 135 yX3_choose, Cond.instanceMethod yX3_choose, Cond.selects RX3 yX3_choose yX3_choose, Cond.code yX3_choose cX3_choose 8 (some .int), Cond.fieldLink RX3 146 "ClosExchange$Network" "choiceRule" "I", Cond.static yX5_hasBit, Cond.code yX5_hasBit cX5_hasBit 2 (some .boolean), Cond.methodLink RX3 149 yX1_loadOf, Cond.instanceMethod yX1_loadOf, Cond.selects RX1 yX1_loadOf yX1_loadOf, Cond.code yX1_loadOf cX1_loadOf 4 (some .int), Cond.fieldLink RX1 42 "ClosExchange$Network" "firstLinks" "LClosExchange$Row;", Cond.methodLink RX3 139 yX3_findPair]
def wsX5_obey_r4 : List Cond := [Cond.instanceMethod yX3_findPair, Cond.selects RX3 yX3_findPair yX3_findPair, Cond.code yX3_findPair cX3_findPair 11 none, Cond.fieldLink RX3 155 "ClosExchange$Network" "pairRule" "I", Cond.methodLink RX3 152 yX3_follow, Cond.instanceMethod yX3_follow, Cond.selects RX3 yX3_follow yX3_follow, Cond.code yX3_follow cX3_follow 9 none, Cond.fieldLink RX3 158 "ClosExchange$Router" "pairQ" "I", Cond.fieldLink RX3 14 "ClosExchange$Router" "chain" "LClosExchange$Row;", Cond.fieldLink RX3 113 "ClosExchange$Network" "outlets" "LClosExchange$Row;", Cond.methodLink RX3 47 yX4_get, Cond.methodLink RX3 164 yX4_set, Cond.instanceMethod yX4_set, Cond.selects RX4 yX4_set yX4_set, Cond.code yX4_set cX4_set 3 none, Cond.methodLink RX3 27 yX1_addCall, Cond.instanceMethod yX1_addCall, Cond.selects RX1 yX1_addCall yX1_addCall, Cond.code yX1_addCall cX1_addCall 3 none, Cond.fieldLink RX1 54 "ClosExchange$Network" "connected" "I", Cond.fieldLink RX1 33 "ClosExchange$Network" "outlets" "LClosExchange$Row;", Cond.methodLink RX1 97 yX4_set, Cond.methodLink RX3 33 yX3_settle]
def wsX5_obey_r5 : List Cond := [Cond.instanceMethod yX3_settle, Cond.selects RX3 yX3_settle yX3_settle, Cond.code yX3_settle cX3_settle 5 none, Cond.fieldLink RX3 87 "ClosExchange$Network" "moved" "I", Cond.methodLink RX3 71 yX1_liftCall, Cond.instanceMethod yX1_liftCall, Cond.selects RX1 yX1_liftCall yX1_liftCall, Cond.code yX1_liftCall cX1_liftCall 3 none, Cond.fieldLink RX1 36 "ClosExchange$Network" "vias" "LClosExchange$Row;", Cond.fieldLink RX1 45 "ClosExchange$Network" "lastLinks" "LClosExchange$Row;", Cond.methodLink RX1 104 yX1_boardOf, Cond.methodLink RX3 167 yX1_carryCall, Cond.instanceMethod yX1_carryCall, Cond.selects RX1 yX1_carryCall yX1_carryCall, Cond.code yX1_carryCall cX1_carryCall 3 none, Cond.methodLink RX5 80 yX3_part, Cond.instanceMethod yX3_part, Cond.selects RX3 yX3_part yX3_part, Cond.code yX3_part cX3_part 4 (some .int), Cond.fieldLink RX3 44 "ClosExchange$Network" "numbers" "LClosExchange$Row;", Cond.fieldLink RX3 54 "ClosExchange$Network" "ended" "I", Cond.methodLink RX3 51 yX1_removeCall, Cond.instanceMethod yX1_removeCall, Cond.selects RX1 yX1_removeCall yX1_removeCall]
def wsX5_obey_r6 : List Cond := [Cond.code yX1_removeCall cX1_removeCall 2 none, Cond.methodLink RX1 101 yX1_liftCall, Cond.methodLink RX5 84 yX3_retire, Cond.instanceMethod yX3_retire, Cond.selects RX3 yX3_retire yX3_retire, Cond.code yX3_retire cX3_retire 4 (some .int), Cond.fieldLink RX3 61 "ClosExchange$Network" "service" "I", Cond.fieldLink RX3 68 "ClosExchange$Network" "vias" "LClosExchange$Row;", Cond.methodLink RX3 58 yX1_isMiddle, Cond.instanceMethod yX1_isMiddle, Cond.selects RX1 yX1_isMiddle yX1_isMiddle, Cond.code yX1_isMiddle cX1_isMiddle 2 (some .boolean), Cond.methodLink RX3 74 yX3_reroute, Cond.instanceMethod yX3_reroute, Cond.selects RX3 yX3_reroute yX3_reroute, Cond.code yX3_reroute cX3_reroute 6 (some .int), Cond.fieldLink RX3 116 "ClosExchange$Network" "dropped" "I", Cond.methodLink RX3 110 yX1_firstLifted, Cond.instanceMethod yX1_firstLifted, Cond.selects RX1 yX1_firstLifted yX1_firstLifted, Cond.code yX1_firstLifted cX1_firstLifted 3 (some .int), Cond.methodLink RX1 85 yX1_isInletBusy, Cond.methodLink RX5 87 yX3_revive, Cond.instanceMethod yX3_revive]
def wsX5_obey_r7 : List Cond := [Cond.selects RX3 yX3_revive yX3_revive, Cond.code yX3_revive cX3_revive 3 (some .int), Cond.methodLink RX3 78 yJ6_bitCount_0f7a4, Cond.static yJ6_bitCount_0f7a4, Cond.initialized RJ6, Cond.code yJ6_bitCount_0f7a4 cJ6_bitCount_0f7a4 1 (some .int), Cond.constant RJ6 265 (1431655765), Cond.constant RJ6 266 (858993459), Cond.constant RJ6 267 (252645135), Cond.methodLink RX5 90 yX3_repack, Cond.instanceMethod yX3_repack, Cond.selects RX3 yX3_repack yX3_repack, Cond.code yX3_repack cX3_repack 5 (some .int), Cond.fieldLink RX3 20 "ClosExchange$Router" "formerVias" "LClosExchange$Row;", Cond.methodLink RX3 83 yX1_countCalls, Cond.instanceMethod yX1_countCalls, Cond.selects RX1 yX1_countCalls yX1_countCalls, Cond.code yX1_countCalls cX1_countCalls 3 (some .int), Cond.methodLink RX3 90 yX1_fullestBoard, Cond.instanceMethod yX1_fullestBoard, Cond.selects RX1 yX1_fullestBoard yX1_fullestBoard, Cond.code yX1_fullestBoard cX1_fullestBoard 6 (some .int), Cond.methodLink RX1 92 Lib.Math.max.name, Cond.static Lib.Math.max.name]
def wsX5_obey_r8 : List Cond := [Cond.initialized "java/lang/Math", Cond.code Lib.Math.max.name Lib.Math.max.code 2 (some .int), Cond.methodLink RX1 89 yX1_isOutletBusy, Cond.methodLink RX3 93 yX3_lowestBits, Cond.static yX3_lowestBits, Cond.code yX3_lowestBits cX3_lowestBits 5 (some .int), Cond.methodLink RX3 97 yX4_copyFrom, Cond.instanceMethod yX4_copyFrom, Cond.selects RX4 yX4_copyFrom yX4_copyFrom, Cond.code yX4_copyFrom cX4_copyFrom 2 none, Cond.methodLink RX4 27 Lib.Math.min.name, Cond.static Lib.Math.min.name, Cond.code Lib.Math.min.name Lib.Math.min.code 2 (some .int), Cond.methodLink RX4 30 arraycopyName, Cond.native arraycopyName, Cond.static arraycopyName, Cond.initialized "java/lang/System", Cond.methodLink RX3 101 yX3_countChanged, Cond.instanceMethod yX3_countChanged, Cond.selects RX3 yX3_countChanged yX3_countChanged, Cond.code yX3_countChanged cX3_countChanged 4 (some .int)]
def wsX5_obey : List Cond := .code yX5_obey cX5_obey 1 (some .int) :: ((wsX5_obey_r1 ++ (wsX5_obey_r2 ++ (wsX5_obey_r3 ++ (wsX5_obey_r4 ++ (wsX5_obey_r5 ++ (wsX5_obey_r6 ++ (wsX5_obey_r7 ++ wsX5_obey_r8))))))) ++ wsX50 ++ wsX20 ++ wsX10 ++ wsX40 ++ wsX30)
def wsX5_perform_r1 : List Cond := [Cond.fieldLink RX5 42 "ClosExchange" "text" "LClosExchange$OrderText;", Cond.fieldLink RX5 16 "ClosExchange" "before" "LClosExchange$Network;", Cond.fieldLink RX5 12 "ClosExchange" "network" "LClosExchange$Network;", Cond.methodLink RX5 100 yX2_findFault, Cond.instanceMethod yX2_findFault, Cond.selects RX2 yX2_findFault yX2_findFault, Cond.initialized RX2, Cond.code yX2_findFault cX2_findFault 2 (some .int), Cond.fieldLink RX2 28 "ClosExchange$OrderText" "place" "I", Cond.fieldLink RX2 20 "ClosExchange$OrderText" "length" "I", Cond.methodLink RX2 31 yX2_rewind, Cond.instanceMethod yX2_rewind, Cond.selects RX2 yX2_rewind yX2_rewind, Cond.code yX2_rewind cX2_rewind 1 none, Cond.methodLink RX2 34 yX2_readOrder, Cond.instanceMethod yX2_readOrder, Cond.selects RX2 yX2_readOrder yX2_readOrder, Cond.code yX2_readOrder cX2_readOrder 1 (some .boolean), Cond.fieldLink RX2 46 "ClosExchange$OrderText" "kind" "I", Cond.fieldLink RX2 53 "ClosExchange$OrderText" "first" "I", Cond.fieldLink RX2 56 "ClosExchange$OrderText" "second" "I", Cond.methodLink RX2 42 yX2_sign, Cond.instanceMethod yX2_sign, Cond.selects RX2 yX2_sign yX2_sign]
def wsX5_perform_r2 : List Cond := [Cond.code yX2_sign cX2_sign 1 (some .int), Cond.fieldLink RX2 14 "ClosExchange$OrderText" "signs" "LClosExchange$Row;", Cond.methodLink RX2 59 yX4_get, Cond.instanceMethod yX4_get, Cond.selects RX4 yX4_get yX4_get, Cond.initialized RX4, Cond.code yX4_get cX4_get 2 (some .int), Cond.fieldLink RX4 15 "ClosExchange$Row" "cells" "[I", Cond.methodLink RX2 49 yX2_readNumber, Cond.instanceMethod yX2_readNumber, Cond.selects RX2 yX2_readNumber yX2_readNumber, Cond.code yX2_readNumber cX2_readNumber 6 (some .int), Cond.methodLink RX2 62 Lib.Math.max.name, Cond.static Lib.Math.max.name, Cond.initialized "java/lang/Math", Cond.code Lib.Math.max.name Lib.Math.max.code 2 (some .int), Cond.methodLink RX2 38 yX2_skip, Cond.instanceMethod yX2_skip, Cond.selects RX2 yX2_skip yX2_skip, Cond.code yX2_skip cX2_skip 2 (some .boolean), Cond.methodLink RX5 69 yX1_copyFrom, Cond.instanceMethod yX1_copyFrom, Cond.selects RX1 yX1_copyFrom yX1_copyFrom, Cond.initialized RX1]
def wsX5_perform_r3 : List Cond := [Cond.code yX1_copyFrom cX1_copyFrom 2 none, Cond.fieldLink RX1 9 "ClosExchange$Network" "boards" "I", Cond.fieldLink RX1 15 "ClosExchange$Network" "lines" "I", Cond.fieldLink RX1 18 "ClosExchange$Network" "middles" "I", Cond.fieldLink RX1 21 "ClosExchange$Network" "service" "I", Cond.fieldLink RX1 48 "ClosExchange$Network" "choiceRule" "I", Cond.fieldLink RX1 51 "ClosExchange$Network" "pairRule" "I", Cond.fieldLink RX1 54 "ClosExchange$Network" "connected" "I", Cond.fieldLink RX1 57 "ClosExchange$Network" "ended" "I", Cond.fieldLink RX1 60 "ClosExchange$Network" "dropped" "I", Cond.fieldLink RX1 63 "ClosExchange$Network" "moved" "I", Cond.fieldLink RX1 29 "ClosExchange$Network" "numbers" "LClosExchange$Row;", Cond.fieldLink RX1 33 "ClosExchange$Network" "outlets" "LClosExchange$Row;", Cond.fieldLink RX1 36 "ClosExchange$Network" "vias" "LClosExchange$Row;", Cond.fieldLink RX1 39 "ClosExchange$Network" "inlets" "LClosExchange$Row;", Cond.fieldLink RX1 42 "ClosExchange$Network" "firstLinks" "LClosExchange$Row;", Cond.fieldLink RX1 45 "ClosExchange$Network" "lastLinks" "LClosExchange$Row;", Cond.methodLink RX1 66 yX4_copyFrom, Cond.instanceMethod yX4_copyFrom, Cond.selects RX4 yX4_copyFrom yX4_copyFrom, Cond.code yX4_copyFrom cX4_copyFrom 2 none, Cond.methodLink RX4 27 Lib.Math.min.name, Cond.static Lib.Math.min.name, Cond.code Lib.Math.min.name Lib.Math.min.code 2 (some .int)]
def wsX5_perform_r4 : List Cond := [Cond.methodLink RX4 30 arraycopyName, Cond.native arraycopyName, Cond.static arraycopyName, Cond.initialized "java/lang/System", Cond.methodLink RX5 104 yX2_rewind, Cond.methodLink RX5 107 yX2_readOrder, Cond.methodLink RX5 111 yX5_obey, Cond.instanceMethod yX5_obey, Cond.selects RX5 yX5_obey yX5_obey, Cond.initialized RX5, Cond.code yX5_obey cX5_obey 1 (some .int), Cond.fieldLink RX5 219 "ClosExchange$OrderText" "kind" "I", Cond.fieldLink RX5 28 "ClosExchange" "router" "LClosExchange$Router;", Cond.fieldLink RX5 222 "ClosExchange$OrderText" "first" "I", Cond.fieldLink RX5 225 "ClosExchange$OrderText" "second" "I", Cond.methodLink RX5 72 yX3_join, Cond.instanceMethod yX3_join, Cond.selects RX3 yX3_join yX3_join, Cond.initialized RX3, Cond.code yX3_join cX3_join 5 (some .int), Cond.methodLink RX3 23 yX3_tryCall, Cond.instanceMethod yX3_tryCall, Cond.selects RX3 yX3_tryCall yX3_tryCall, Cond.code yX3_tryCall cX3_tryCall 4 (some .int)]
def wsX5_perform_r5 : List Cond := [Cond.methodLink RX3 37 yX1_isLine, Cond.instanceMethod yX1_isLine, Cond.selects RX1 yX1_isLine yX1_isLine, Cond.code yX1_isLine cX1_isLine 2 (some .boolean), Cond.methodLink RX3 41 yX1_isInletBusy, Cond.instanceMethod yX1_isInletBusy, Cond.selects RX1 yX1_isInletBusy yX1_isInletBusy, Cond.code yX1_isInletBusy cX1_isInletBusy 2 (some .boolean), Cond.methodLink RX1 77 yX4_get, Cond.methodLink RX3 104 yX1_isOutletBusy, Cond.instanceMethod yX1_isOutletBusy, Cond.selects RX1 yX1_isOutletBusy yX1_isOutletBusy, Cond.code yX1_isOutletBusy cX1_isOutletBusy 2 (some .boolean), Cond.methodLink RX3 107 yX3_findWay, Cond.instanceMethod yX3_findWay, Cond.selects RX3 yX3_findWay yX3_findWay, Cond.code yX3_findWay cX3_findWay 7 (some .int), Cond.fieldLink RX3 119 "ClosExchange$Router" "chainLength" "I", Cond.fieldLink RX3 125 "ClosExchange$Network" "firstLinks" "LClosExchange$Row;", Cond.fieldLink RX3 132 "ClosExchange$Network" "lastLinks" "LClosExchange$Row;", Cond.fieldLink RX3 143 "ClosExchange$Router" "pairP" "I", Cond.methodLink RX3 122 yX1_boardOf, Cond.instanceMethod yX1_boardOf, Cond.selects RX1 yX1_boardOf yX1_boardOf]
def wsX5_perform_r6 : List Cond := [Cond.code yX1_boardOf cX1_boardOf 2 (some .int), Cond.methodLink RX3 128 yX1_freeOnLinks, Cond.instanceMethod yX1_freeOnLinks, Cond.selects RX1 yX1_freeOnLinks yX1_freeOnLinks, Cond.code yX1_freeOnLinks cX1_freeOnLinks 5 (some .int), Cond.static yX5_link, Cond.code yX5_link cX5_link 2 (some .int), Cond.methodLink RX3 135 yX3_choose, Cond.instanceMethod yX3_choose, Cond.selects RX3 yX3_choose yX3_choose, Cond.code yX3_choose cX3_choose 8 (some .int), Cond.fieldLink RX3 146 "ClosExchange$Network" "choiceRule" "I", Cond.static yX5_hasBit, Cond.code yX5_hasBit cX5_hasBit 2 (some .boolean), Cond.methodLink RX3 149 yX1_loadOf, Cond.instanceMethod yX1_loadOf, Cond.selects RX1 yX1_loadOf yX1_loadOf, Cond.code yX1_loadOf cX1_loadOf 4 (some .int), Cond.methodLink RX3 139 yX3_findPair, Cond.instanceMethod yX3_findPair, Cond.selects RX3 yX3_findPair yX3_findPair, Cond.code yX3_findPair cX3_findPair 11 none, Cond.fieldLink RX3 155 "ClosExchange$Network" "pairRule" "I", Cond.methodLink RX3 152 yX3_follow]
def wsX5_perform_r7 : List Cond := [Cond.instanceMethod yX3_follow, Cond.selects RX3 yX3_follow yX3_follow, Cond.code yX3_follow cX3_follow 9 none, Cond.fieldLink RX3 158 "ClosExchange$Router" "pairQ" "I", Cond.fieldLink RX3 14 "ClosExchange$Router" "chain" "LClosExchange$Row;", Cond.fieldLink RX3 113 "ClosExchange$Network" "outlets" "LClosExchange$Row;", Cond.methodLink RX3 47 yX4_get, Cond.methodLink RX3 164 yX4_set, Cond.instanceMethod yX4_set, Cond.selects RX4 yX4_set yX4_set, Cond.code yX4_set cX4_set 3 none, Cond.methodLink RX3 27 yX1_addCall, Cond.instanceMethod yX1_addCall, Cond.selects RX1 yX1_addCall yX1_addCall, Cond.code yX1_addCall cX1_addCall 3 none, Cond.methodLink RX1 97 yX4_set, Cond.methodLink RX3 33 yX3_settle, Cond.instanceMethod yX3_settle, Cond.selects RX3 yX3_settle yX3_settle, Cond.code yX3_settle cX3_settle 5 none, Cond.fieldLink RX3 87 "ClosExchange$Network" "moved" "I", Cond.methodLink RX3 71 yX1_liftCall, Cond.instanceMethod yX1_liftCall, Cond.selects RX1 yX1_liftCall yX1_liftCall]
def wsX5_perform_r8 : List Cond := [Cond.code yX1_liftCall cX1_liftCall 3 none, Cond.methodLink RX1 104 yX1_boardOf, Cond.methodLink RX3 167 yX1_carryCall, Cond.instanceMethod yX1_carryCall, Cond.selects RX1 yX1_carryCall yX1_carryCall, Cond.code yX1_carryCall cX1_carryCall 3 none, Cond.methodLink RX5 80 yX3_part, Cond.instanceMethod yX3_part, Cond.selects RX3 yX3_part yX3_part, Cond.code yX3_part cX3_part 4 (some .int), Cond.fieldLink RX3 44 "ClosExchange$Network" "numbers" "LClosExchange$Row;", Cond.fieldLink RX3 54 "ClosExchange$Network" "ended" "I", Cond.methodLink RX3 51 yX1_removeCall, Cond.instanceMethod yX1_removeCall, Cond.selects RX1 yX1_removeCall yX1_removeCall, Cond.code yX1_removeCall cX1_removeCall 2 none, Cond.methodLink RX1 101 yX1_liftCall, Cond.methodLink RX5 84 yX3_retire, Cond.instanceMethod yX3_retire, Cond.selects RX3 yX3_retire yX3_retire, Cond.code yX3_retire cX3_retire 4 (some .int), Cond.fieldLink RX3 61 "ClosExchange$Network" "service" "I", Cond.fieldLink RX3 68 "ClosExchange$Network" "vias" "LClosExchange$Row;", Cond.methodLink RX3 58 yX1_isMiddle]
def wsX5_perform_r9 : List Cond := [Cond.instanceMethod yX1_isMiddle, Cond.selects RX1 yX1_isMiddle yX1_isMiddle, Cond.code yX1_isMiddle cX1_isMiddle 2 (some .boolean), Cond.methodLink RX3 74 yX3_reroute, Cond.instanceMethod yX3_reroute, Cond.selects RX3 yX3_reroute yX3_reroute, Cond.code yX3_reroute cX3_reroute 6 (some .int), Cond.fieldLink RX3 116 "ClosExchange$Network" "dropped" "I", Cond.methodLink RX3 110 yX1_firstLifted, Cond.instanceMethod yX1_firstLifted, Cond.selects RX1 yX1_firstLifted yX1_firstLifted, Cond.code yX1_firstLifted cX1_firstLifted 3 (some .int), Cond.methodLink RX1 85 yX1_isInletBusy, Cond.methodLink RX5 87 yX3_revive, Cond.instanceMethod yX3_revive, Cond.selects RX3 yX3_revive yX3_revive, Cond.code yX3_revive cX3_revive 3 (some .int), Cond.methodLink RX3 78 yJ6_bitCount_0f7a4, Cond.static yJ6_bitCount_0f7a4, Cond.initialized RJ6, Cond.code yJ6_bitCount_0f7a4 cJ6_bitCount_0f7a4 1 (some .int), Cond.constant RJ6 265 (1431655765), Cond.constant RJ6 266 (858993459), Cond.constant RJ6 267 (252645135)]
def wsX5_perform_r10 : List Cond := [Cond.methodLink RX5 90 yX3_repack, Cond.instanceMethod yX3_repack, Cond.selects RX3 yX3_repack yX3_repack, Cond.code yX3_repack cX3_repack 5 (some .int), Cond.fieldLink RX3 20 "ClosExchange$Router" "formerVias" "LClosExchange$Row;", Cond.methodLink RX3 83 yX1_countCalls, Cond.instanceMethod yX1_countCalls, Cond.selects RX1 yX1_countCalls yX1_countCalls, Cond.code yX1_countCalls cX1_countCalls 3 (some .int), Cond.methodLink RX3 90 yX1_fullestBoard, Cond.instanceMethod yX1_fullestBoard, Cond.selects RX1 yX1_fullestBoard yX1_fullestBoard, Cond.code yX1_fullestBoard cX1_fullestBoard 6 (some .int), Cond.methodLink RX1 92 Lib.Math.max.name, Cond.methodLink RX1 89 yX1_isOutletBusy, Cond.methodLink RX3 93 yX3_lowestBits, Cond.static yX3_lowestBits, Cond.code yX3_lowestBits cX3_lowestBits 5 (some .int), Cond.methodLink RX3 97 yX4_copyFrom, Cond.methodLink RX3 101 yX3_countChanged, Cond.instanceMethod yX3_countChanged, Cond.selects RX3 yX3_countChanged yX3_countChanged, Cond.code yX3_countChanged cX3_countChanged 4 (some .int), Cond.methodLink RX5 114 yX2_skip]
def wsX5_perform_r11 : List Cond := [Cond.methodLink RX5 76 yX5_recorded, Cond.instanceMethod yX5_recorded, Cond.selects RX5 yX5_recorded yX5_recorded, Cond.code yX5_recorded cX5_recorded 2 (some .int), Cond.fieldLink RX5 35 "ClosExchange" "history" "LClosExchange$History;", Cond.methodLink RX5 54 yX0_push, Cond.instanceMethod yX0_push, Cond.selects RX0 yX0_push yX0_push, Cond.initialized RX0, Cond.code yX0_push cX0_push 3 none, Cond.fieldLink RX0 18 "ClosExchange$History" "latest" "I", Cond.fieldLink RX0 30 "ClosExchange$History" "count" "I", Cond.methodLink RX0 33 Lib.Math.min.name, Cond.methodLink RX0 22 yX0_latestState, Cond.instanceMethod yX0_latestState, Cond.selects RX0 yX0_latestState yX0_latestState, Cond.code yX0_latestState cX0_latestState 1 (some (.object "ClosExchange$Network")), Cond.fieldLink RX0 11 "ClosExchange$History" "states" "[LClosExchange$Network;", Cond.methodLink RX0 26 yX1_copyFrom]
def wsX5_perform : List Cond := .code yX5_perform cX5_perform 4 (some .int) :: ((wsX5_perform_r1 ++ (wsX5_perform_r2 ++ (wsX5_perform_r3 ++ (wsX5_perform_r4 ++ (wsX5_perform_r5 ++ (wsX5_perform_r6 ++ (wsX5_perform_r7 ++ (wsX5_perform_r8 ++ (wsX5_perform_r9 ++ (wsX5_perform_r10 ++ wsX5_perform_r11)))))))))) ++ wsX50 ++ wsX20 ++ wsX40 ++ wsX10 ++ wsX30 ++ wsX00)
def wsX5_undo_r1 : List Cond := [Cond.fieldLink RX5 35 "ClosExchange" "history" "LClosExchange$History;", Cond.fieldLink RX5 12 "ClosExchange" "network" "LClosExchange$Network;", Cond.methodLink RX5 118 yX0_takeBack, Cond.instanceMethod yX0_takeBack, Cond.selects RX0 yX0_takeBack yX0_takeBack, Cond.initialized RX0, Cond.code yX0_takeBack cX0_takeBack 3 (some .int), Cond.fieldLink RX0 30 "ClosExchange$History" "count" "I", Cond.fieldLink RX0 18 "ClosExchange$History" "latest" "I", Cond.methodLink RX0 22 yX0_latestState, Cond.instanceMethod yX0_latestState, Cond.selects RX0 yX0_latestState yX0_latestState, Cond.code yX0_latestState cX0_latestState 1 (some (.object "ClosExchange$Network")), Cond.fieldLink RX0 11 "ClosExchange$History" "states" "[LClosExchange$Network;", Cond.methodLink RX0 26 yX1_copyFrom, Cond.instanceMethod yX1_copyFrom, Cond.selects RX1 yX1_copyFrom yX1_copyFrom, Cond.initialized RX1, Cond.code yX1_copyFrom cX1_copyFrom 2 none, Cond.fieldLink RX1 9 "ClosExchange$Network" "boards" "I", Cond.fieldLink RX1 15 "ClosExchange$Network" "lines" "I", Cond.fieldLink RX1 18 "ClosExchange$Network" "middles" "I", Cond.fieldLink RX1 21 "ClosExchange$Network" "service" "I", Cond.fieldLink RX1 48 "ClosExchange$Network" "choiceRule" "I"]
def wsX5_undo_r2 : List Cond := [Cond.fieldLink RX1 51 "ClosExchange$Network" "pairRule" "I", Cond.fieldLink RX1 54 "ClosExchange$Network" "connected" "I", Cond.fieldLink RX1 57 "ClosExchange$Network" "ended" "I", Cond.fieldLink RX1 60 "ClosExchange$Network" "dropped" "I", Cond.fieldLink RX1 63 "ClosExchange$Network" "moved" "I", Cond.fieldLink RX1 29 "ClosExchange$Network" "numbers" "LClosExchange$Row;", Cond.fieldLink RX1 33 "ClosExchange$Network" "outlets" "LClosExchange$Row;", Cond.fieldLink RX1 36 "ClosExchange$Network" "vias" "LClosExchange$Row;", Cond.fieldLink RX1 39 "ClosExchange$Network" "inlets" "LClosExchange$Row;", Cond.fieldLink RX1 42 "ClosExchange$Network" "firstLinks" "LClosExchange$Row;", Cond.fieldLink RX1 45 "ClosExchange$Network" "lastLinks" "LClosExchange$Row;", Cond.methodLink RX1 66 yX4_copyFrom, Cond.instanceMethod yX4_copyFrom, Cond.selects RX4 yX4_copyFrom yX4_copyFrom, Cond.initialized RX4, Cond.code yX4_copyFrom cX4_copyFrom 2 none, Cond.fieldLink RX4 15 "ClosExchange$Row" "cells" "[I", Cond.methodLink RX4 27 Lib.Math.min.name, Cond.static Lib.Math.min.name, Cond.initialized "java/lang/Math", Cond.code Lib.Math.min.name Lib.Math.min.code 2 (some .int), Cond.methodLink RX4 30 arraycopyName, Cond.native arraycopyName, Cond.static arraycopyName]
def wsX5_undo_r3 : List Cond := [Cond.initialized "java/lang/System"]
def wsX5_undo : List Cond := .code yX5_undo cX5_undo 1 (some .int) :: ((wsX5_undo_r1 ++ (wsX5_undo_r2 ++ wsX5_undo_r3)) ++ wsX50 ++ wsX00 ++ wsX10 ++ wsX40)
def wsX5_keep_r1 : List Cond := [Cond.fieldLink RX5 19 "ClosExchange" "snapshot" "LClosExchange$Network;", Cond.fieldLink RX5 12 "ClosExchange" "network" "LClosExchange$Network;", Cond.fieldLink RX5 46 "ClosExchange" "kept" "Z", Cond.methodLink RX5 69 yX1_copyFrom, Cond.instanceMethod yX1_copyFrom, Cond.selects RX1 yX1_copyFrom yX1_copyFrom, Cond.initialized RX1, Cond.code yX1_copyFrom cX1_copyFrom 2 none, Cond.fieldLink RX1 9 "ClosExchange$Network" "boards" "I", Cond.fieldLink RX1 15 "ClosExchange$Network" "lines" "I", Cond.fieldLink RX1 18 "ClosExchange$Network" "middles" "I", Cond.fieldLink RX1 21 "ClosExchange$Network" "service" "I", Cond.fieldLink RX1 48 "ClosExchange$Network" "choiceRule" "I", Cond.fieldLink RX1 51 "ClosExchange$Network" "pairRule" "I", Cond.fieldLink RX1 54 "ClosExchange$Network" "connected" "I", Cond.fieldLink RX1 57 "ClosExchange$Network" "ended" "I", Cond.fieldLink RX1 60 "ClosExchange$Network" "dropped" "I", Cond.fieldLink RX1 63 "ClosExchange$Network" "moved" "I", Cond.fieldLink RX1 29 "ClosExchange$Network" "numbers" "LClosExchange$Row;", Cond.fieldLink RX1 33 "ClosExchange$Network" "outlets" "LClosExchange$Row;", Cond.fieldLink RX1 36 "ClosExchange$Network" "vias" "LClosExchange$Row;", Cond.fieldLink RX1 39 "ClosExchange$Network" "inlets" "LClosExchange$Row;", Cond.fieldLink RX1 42 "ClosExchange$Network" "firstLinks" "LClosExchange$Row;", Cond.fieldLink RX1 45 "ClosExchange$Network" "lastLinks" "LClosExchange$Row;"]
def wsX5_keep_r2 : List Cond := [Cond.methodLink RX1 66 yX4_copyFrom, Cond.instanceMethod yX4_copyFrom, Cond.selects RX4 yX4_copyFrom yX4_copyFrom, Cond.initialized RX4, Cond.code yX4_copyFrom cX4_copyFrom 2 none, Cond.fieldLink RX4 15 "ClosExchange$Row" "cells" "[I", Cond.methodLink RX4 27 Lib.Math.min.name, Cond.static Lib.Math.min.name, Cond.initialized "java/lang/Math", Cond.code Lib.Math.min.name Lib.Math.min.code 2 (some .int), Cond.methodLink RX4 30 arraycopyName, Cond.native arraycopyName, Cond.static arraycopyName, Cond.initialized "java/lang/System", Cond.methodLink RX5 121 yX1_countCalls, Cond.instanceMethod yX1_countCalls, Cond.selects RX1 yX1_countCalls yX1_countCalls, Cond.code yX1_countCalls cX1_countCalls 3 (some .int), Cond.methodLink RX1 77 yX4_get, Cond.instanceMethod yX4_get, Cond.selects RX4 yX4_get yX4_get, Cond.code yX4_get cX4_get 2 (some .int)]
def wsX5_keep : List Cond := .code yX5_keep cX5_keep 1 (some .int) :: ((wsX5_keep_r1 ++ wsX5_keep_r2) ++ wsX50 ++ wsX10 ++ wsX40)
def wsX5_restore_r1 : List Cond := [Cond.fieldLink RX5 46 "ClosExchange" "kept" "Z", Cond.fieldLink RX5 35 "ClosExchange" "history" "LClosExchange$History;", Cond.fieldLink RX5 12 "ClosExchange" "network" "LClosExchange$Network;", Cond.fieldLink RX5 19 "ClosExchange" "snapshot" "LClosExchange$Network;", Cond.methodLink RX5 54 yX0_push, Cond.instanceMethod yX0_push, Cond.selects RX0 yX0_push yX0_push, Cond.initialized RX0, Cond.code yX0_push cX0_push 3 none, Cond.fieldLink RX0 18 "ClosExchange$History" "latest" "I", Cond.fieldLink RX0 30 "ClosExchange$History" "count" "I", Cond.methodLink RX0 33 Lib.Math.min.name, Cond.static Lib.Math.min.name, Cond.initialized "java/lang/Math", Cond.code Lib.Math.min.name Lib.Math.min.code 2 (some .int), Cond.methodLink RX0 22 yX0_latestState, Cond.instanceMethod yX0_latestState, Cond.selects RX0 yX0_latestState yX0_latestState, Cond.code yX0_latestState cX0_latestState 1 (some (.object "ClosExchange$Network")), Cond.fieldLink RX0 11 "ClosExchange$History" "states" "[LClosExchange$Network;", Cond.methodLink RX0 26 yX1_copyFrom, Cond.instanceMethod yX1_copyFrom, Cond.selects RX1 yX1_copyFrom yX1_copyFrom, Cond.initialized RX1]
def wsX5_restore_r2 : List Cond := [Cond.code yX1_copyFrom cX1_copyFrom 2 none, Cond.fieldLink RX1 9 "ClosExchange$Network" "boards" "I", Cond.fieldLink RX1 15 "ClosExchange$Network" "lines" "I", Cond.fieldLink RX1 18 "ClosExchange$Network" "middles" "I", Cond.fieldLink RX1 21 "ClosExchange$Network" "service" "I", Cond.fieldLink RX1 48 "ClosExchange$Network" "choiceRule" "I", Cond.fieldLink RX1 51 "ClosExchange$Network" "pairRule" "I", Cond.fieldLink RX1 54 "ClosExchange$Network" "connected" "I", Cond.fieldLink RX1 57 "ClosExchange$Network" "ended" "I", Cond.fieldLink RX1 60 "ClosExchange$Network" "dropped" "I", Cond.fieldLink RX1 63 "ClosExchange$Network" "moved" "I", Cond.fieldLink RX1 29 "ClosExchange$Network" "numbers" "LClosExchange$Row;", Cond.fieldLink RX1 33 "ClosExchange$Network" "outlets" "LClosExchange$Row;", Cond.fieldLink RX1 36 "ClosExchange$Network" "vias" "LClosExchange$Row;", Cond.fieldLink RX1 39 "ClosExchange$Network" "inlets" "LClosExchange$Row;", Cond.fieldLink RX1 42 "ClosExchange$Network" "firstLinks" "LClosExchange$Row;", Cond.fieldLink RX1 45 "ClosExchange$Network" "lastLinks" "LClosExchange$Row;", Cond.methodLink RX1 66 yX4_copyFrom, Cond.instanceMethod yX4_copyFrom, Cond.selects RX4 yX4_copyFrom yX4_copyFrom, Cond.initialized RX4, Cond.code yX4_copyFrom cX4_copyFrom 2 none, Cond.fieldLink RX4 15 "ClosExchange$Row" "cells" "[I", Cond.methodLink RX4 27 Lib.Math.min.name]
def wsX5_restore_r3 : List Cond := [Cond.methodLink RX4 30 arraycopyName, Cond.native arraycopyName, Cond.static arraycopyName, Cond.initialized "java/lang/System", Cond.methodLink RX5 69 yX1_copyFrom, Cond.methodLink RX5 121 yX1_countCalls, Cond.instanceMethod yX1_countCalls, Cond.selects RX1 yX1_countCalls yX1_countCalls, Cond.code yX1_countCalls cX1_countCalls 3 (some .int), Cond.methodLink RX1 77 yX4_get, Cond.instanceMethod yX4_get, Cond.selects RX4 yX4_get yX4_get, Cond.code yX4_get cX4_get 2 (some .int)]
def wsX5_restore : List Cond := .code yX5_restore cX5_restore 1 (some .int) :: ((wsX5_restore_r1 ++ (wsX5_restore_r2 ++ wsX5_restore_r3)) ++ wsX50 ++ wsX00 ++ wsX10 ++ wsX40)
def wsX5_callOfInlet : List Cond := .code yX5_callOfInlet cX5_callOfInlet 2 (some .int) :: ([.fieldLink RX5 12 "ClosExchange" "network" "LClosExchange$Network;", .fieldLink RX5 127 "ClosExchange$Network" "numbers" "LClosExchange$Row;", .methodLink RX5 124 yX1_isLine, .instanceMethod yX1_isLine, .selects RX1 yX1_isLine yX1_isLine, .initialized RX1, .code yX1_isLine cX1_isLine 2 (some .boolean), .fieldLink RX1 9 "ClosExchange$Network" "boards" "I", .fieldLink RX1 15 "ClosExchange$Network" "lines" "I", .methodLink RX5 131 yX4_get, .instanceMethod yX4_get, .selects RX4 yX4_get yX4_get, .initialized RX4, .code yX4_get cX4_get 2 (some .int), .fieldLink RX4 15 "ClosExchange$Row" "cells" "[I"] ++ wsX50 ++ wsX10 ++ wsX40)
def wsX5_callOfOutlet : List Cond := .code yX5_callOfOutlet cX5_callOfOutlet 2 (some .int) :: ([.fieldLink RX5 12 "ClosExchange" "network" "LClosExchange$Network;", .fieldLink RX5 127 "ClosExchange$Network" "numbers" "LClosExchange$Row;", .fieldLink RX5 136 "ClosExchange$Network" "inlets" "LClosExchange$Row;", .methodLink RX5 124 yX1_isLine, .instanceMethod yX1_isLine, .selects RX1 yX1_isLine yX1_isLine, .initialized RX1, .code yX1_isLine cX1_isLine 2 (some .boolean), .fieldLink RX1 9 "ClosExchange$Network" "boards" "I", .fieldLink RX1 15 "ClosExchange$Network" "lines" "I", .methodLink RX5 131 yX4_get, .instanceMethod yX4_get, .selects RX4 yX4_get yX4_get, .initialized RX4, .code yX4_get cX4_get 2 (some .int), .fieldLink RX4 15 "ClosExchange$Row" "cells" "[I"] ++ wsX50 ++ wsX10 ++ wsX40)
def wsX5_inletOf : List Cond := .code yX5_inletOf cX5_inletOf 2 (some .int) :: ([.fieldLink RX5 12 "ClosExchange" "network" "LClosExchange$Network;", .methodLink RX5 139 yX1_findInlet, .instanceMethod yX1_findInlet, .selects RX1 yX1_findInlet yX1_findInlet, .initialized RX1, .code yX1_findInlet cX1_findInlet 3 (some .int), .fieldLink RX1 29 "ClosExchange$Network" "numbers" "LClosExchange$Row;", .methodLink RX1 77 yX4_get, .instanceMethod yX4_get, .selects RX4 yX4_get yX4_get, .initialized RX4, .code yX4_get cX4_get 2 (some .int), .fieldLink RX4 15 "ClosExchange$Row" "cells" "[I"] ++ wsX50 ++ wsX10 ++ wsX40)
def wsX5_outletOf : List Cond := .code yX5_outletOf cX5_outletOf 3 (some .int) :: ([.fieldLink RX5 12 "ClosExchange" "network" "LClosExchange$Network;", .fieldLink RX5 142 "ClosExchange$Network" "outlets" "LClosExchange$Row;", .methodLink RX5 139 yX1_findInlet, .instanceMethod yX1_findInlet, .selects RX1 yX1_findInlet yX1_findInlet, .initialized RX1, .code yX1_findInlet cX1_findInlet 3 (some .int), .fieldLink RX1 29 "ClosExchange$Network" "numbers" "LClosExchange$Row;", .methodLink RX1 77 yX4_get, .instanceMethod yX4_get, .selects RX4 yX4_get yX4_get, .initialized RX4, .code yX4_get cX4_get 2 (some .int), .fieldLink RX4 15 "ClosExchange$Row" "cells" "[I", .methodLink RX5 131 yX4_get] ++ wsX50 ++ wsX10 ++ wsX40)
def wsX5_middleOf : List Cond := .code yX5_middleOf cX5_middleOf 3 (some .int) :: ([.fieldLink RX5 12 "ClosExchange" "network" "LClosExchange$Network;", .fieldLink RX5 145 "ClosExchange$Network" "vias" "LClosExchange$Row;", .methodLink RX5 139 yX1_findInlet, .instanceMethod yX1_findInlet, .selects RX1 yX1_findInlet yX1_findInlet, .initialized RX1, .code yX1_findInlet cX1_findInlet 3 (some .int), .fieldLink RX1 29 "ClosExchange$Network" "numbers" "LClosExchange$Row;", .methodLink RX1 77 yX4_get, .instanceMethod yX4_get, .selects RX4 yX4_get yX4_get, .initialized RX4, .code yX4_get cX4_get 2 (some .int), .fieldLink RX4 15 "ClosExchange$Row" "cells" "[I", .methodLink RX5 131 yX4_get] ++ wsX50 ++ wsX10 ++ wsX40)
def wsX5_onFirstLink : List Cond := .code yX5_onFirstLink cX5_onFirstLink 3 (some .int) :: ([.fieldLink RX5 12 "ClosExchange" "network" "LClosExchange$Network;", .fieldLink RX5 127 "ClosExchange$Network" "numbers" "LClosExchange$Row;", .fieldLink RX5 154 "ClosExchange$Network" "firstLinks" "LClosExchange$Row;", .methodLink RX5 148 yX1_isBoard, .instanceMethod yX1_isBoard, .selects RX1 yX1_isBoard yX1_isBoard, .initialized RX1, .code yX1_isBoard cX1_isBoard 2 (some .boolean), .fieldLink RX1 9 "ClosExchange$Network" "boards" "I", .methodLink RX5 151 yX1_isMiddle, .instanceMethod yX1_isMiddle, .selects RX1 yX1_isMiddle yX1_isMiddle, .code yX1_isMiddle cX1_isMiddle 2 (some .boolean), .fieldLink RX1 18 "ClosExchange$Network" "middles" "I", .methodLink RX5 157 yX5_link, .static yX5_link, .initialized RX5, .code yX5_link cX5_link 2 (some .int), .methodLink RX5 131 yX4_get, .instanceMethod yX4_get, .selects RX4 yX4_get yX4_get, .initialized RX4, .code yX4_get cX4_get 2 (some .int), .fieldLink RX4 15 "ClosExchange$Row" "cells" "[I"] ++ wsX50 ++ wsX10 ++ wsX40)
def wsX5_onLastLink : List Cond := .code yX5_onLastLink cX5_onLastLink 3 (some .int) :: ([.fieldLink RX5 12 "ClosExchange" "network" "LClosExchange$Network;", .fieldLink RX5 127 "ClosExchange$Network" "numbers" "LClosExchange$Row;", .fieldLink RX5 161 "ClosExchange$Network" "lastLinks" "LClosExchange$Row;", .methodLink RX5 151 yX1_isMiddle, .instanceMethod yX1_isMiddle, .selects RX1 yX1_isMiddle yX1_isMiddle, .initialized RX1, .code yX1_isMiddle cX1_isMiddle 2 (some .boolean), .fieldLink RX1 18 "ClosExchange$Network" "middles" "I", .methodLink RX5 148 yX1_isBoard, .instanceMethod yX1_isBoard, .selects RX1 yX1_isBoard yX1_isBoard, .code yX1_isBoard cX1_isBoard 2 (some .boolean), .fieldLink RX1 9 "ClosExchange$Network" "boards" "I", .methodLink RX5 157 yX5_link, .static yX5_link, .initialized RX5, .code yX5_link cX5_link 2 (some .int), .methodLink RX5 131 yX4_get, .instanceMethod yX4_get, .selects RX4 yX4_get yX4_get, .initialized RX4, .code yX4_get cX4_get 2 (some .int), .fieldLink RX4 15 "ClosExchange$Row" "cells" "[I"] ++ wsX50 ++ wsX10 ++ wsX40)
def wsX5_load : List Cond := .code yX5_load cX5_load 2 (some .int) :: ([.fieldLink RX5 12 "ClosExchange" "network" "LClosExchange$Network;", .methodLink RX5 151 yX1_isMiddle, .instanceMethod yX1_isMiddle, .selects RX1 yX1_isMiddle yX1_isMiddle, .initialized RX1, .code yX1_isMiddle cX1_isMiddle 2 (some .boolean), .fieldLink RX1 18 "ClosExchange$Network" "middles" "I", .methodLink RX5 164 yX1_loadOf, .instanceMethod yX1_loadOf, .selects RX1 yX1_loadOf yX1_loadOf, .code yX1_loadOf cX1_loadOf 4 (some .int), .fieldLink RX1 9 "ClosExchange$Network" "boards" "I", .fieldLink RX1 42 "ClosExchange$Network" "firstLinks" "LClosExchange$Row;", .static yX5_link, .initialized RX5, .code yX5_link cX5_link 2 (some .int), .methodLink RX1 77 yX4_get, .instanceMethod yX4_get, .selects RX4 yX4_get yX4_get, .initialized RX4, .code yX4_get cX4_get 2 (some .int), .fieldLink RX4 15 "ClosExchange$Row" "cells" "[I"] ++ wsX50 ++ wsX10 ++ wsX40)
def wsX5_freeForFirst : List Cond := .code yX5_freeForFirst cX5_freeForFirst 2 (some .int) :: ([.fieldLink RX5 12 "ClosExchange" "network" "LClosExchange$Network;", .fieldLink RX5 154 "ClosExchange$Network" "firstLinks" "LClosExchange$Row;", .methodLink RX5 148 yX1_isBoard, .instanceMethod yX1_isBoard, .selects RX1 yX1_isBoard yX1_isBoard, .initialized RX1, .code yX1_isBoard cX1_isBoard 2 (some .boolean), .fieldLink RX1 9 "ClosExchange$Network" "boards" "I", .methodLink RX5 167 yX1_freeOnLinks, .instanceMethod yX1_freeOnLinks, .selects RX1 yX1_freeOnLinks yX1_freeOnLinks, .code yX1_freeOnLinks cX1_freeOnLinks 5 (some .int), .fieldLink RX1 18 "ClosExchange$Network" "middles" "I", .fieldLink RX1 21 "ClosExchange$Network" "service" "I", .static yX5_link, .initialized RX5, .code yX5_link cX5_link 2 (some .int), .methodLink RX1 77 yX4_get, .instanceMethod yX4_get, .selects RX4 yX4_get yX4_get, .initialized RX4, .code yX4_get cX4_get 2 (some .int), .fieldLink RX4 15 "ClosExchange$Row" "cells" "[I"] ++ wsX50 ++ wsX10 ++ wsX40)
def wsX5_freeForLast : List Cond := .code yX5_freeForLast cX5_freeForLast 2 (some .int) :: ([.fieldLink RX5 12 "ClosExchange" "network" "LClosExchange$Network;", .fieldLink RX5 161 "ClosExchange$Network" "lastLinks" "LClosExchange$Row;", .methodLink RX5 148 yX1_isBoard, .instanceMethod yX1_isBoard, .selects RX1 yX1_isBoard yX1_isBoard, .initialized RX1, .code yX1_isBoard cX1_isBoard 2 (some .boolean), .fieldLink RX1 9 "ClosExchange$Network" "boards" "I", .methodLink RX5 167 yX1_freeOnLinks, .instanceMethod yX1_freeOnLinks, .selects RX1 yX1_freeOnLinks yX1_freeOnLinks, .code yX1_freeOnLinks cX1_freeOnLinks 5 (some .int), .fieldLink RX1 18 "ClosExchange$Network" "middles" "I", .fieldLink RX1 21 "ClosExchange$Network" "service" "I", .static yX5_link, .initialized RX5, .code yX5_link cX5_link 2 (some .int), .methodLink RX1 77 yX4_get, .instanceMethod yX4_get, .selects RX4 yX4_get yX4_get, .initialized RX4, .code yX4_get cX4_get 2 (some .int), .fieldLink RX4 15 "ClosExchange$Row" "cells" "[I"] ++ wsX50 ++ wsX10 ++ wsX40)
def wsX5_inService : List Cond := .code yX5_inService cX5_inService 1 (some .int) :: ([.fieldLink RX5 12 "ClosExchange" "network" "LClosExchange$Network;", .fieldLink RX5 171 "ClosExchange$Network" "service" "I"] ++ wsX50 ++ wsX10)
def wsX5_total_r1 : List Cond := [Cond.fieldLink RX5 12 "ClosExchange" "network" "LClosExchange$Network;", Cond.fieldLink RX5 174 "ClosExchange$Network" "boards" "I", Cond.fieldLink RX5 177 "ClosExchange$Network" "lines" "I", Cond.fieldLink RX5 180 "ClosExchange$Network" "middles" "I", Cond.fieldLink RX5 62 "ClosExchange$Network" "choiceRule" "I", Cond.fieldLink RX5 66 "ClosExchange$Network" "pairRule" "I", Cond.fieldLink RX5 183 "ClosExchange$Network" "connected" "I", Cond.fieldLink RX5 186 "ClosExchange$Network" "ended" "I", Cond.fieldLink RX5 189 "ClosExchange$Network" "dropped" "I", Cond.fieldLink RX5 192 "ClosExchange$Network" "moved" "I", Cond.fieldLink RX5 35 "ClosExchange" "history" "LClosExchange$History;", Cond.fieldLink RX5 195 "ClosExchange$History" "count" "I", Cond.fieldLink RX5 42 "ClosExchange" "text" "LClosExchange$OrderText;", Cond.fieldLink RX5 97 "ClosExchange$OrderText" "length" "I", Cond.methodLink RX5 121 yX1_countCalls, Cond.instanceMethod yX1_countCalls, Cond.selects RX1 yX1_countCalls yX1_countCalls, Cond.initialized RX1, Cond.code yX1_countCalls cX1_countCalls 3 (some .int), Cond.fieldLink RX1 29 "ClosExchange$Network" "numbers" "LClosExchange$Row;", Cond.methodLink RX1 77 yX4_get, Cond.instanceMethod yX4_get, Cond.selects RX4 yX4_get yX4_get, Cond.initialized RX4]
def wsX5_total_r2 : List Cond := [Cond.code yX4_get cX4_get 2 (some .int), Cond.fieldLink RX4 15 "ClosExchange$Row" "cells" "[I"]
def wsX5_total : List Cond := .code yX5_total cX5_total 2 (some .int) :: ((wsX5_total_r1 ++ wsX5_total_r2) ++ wsX50 ++ wsX10 ++ wsX00 ++ wsX20 ++ wsX40)
def wsX5_wouldMove_r1 : List Cond := [Cond.fieldLink RX5 28 "ClosExchange" "router" "LClosExchange$Router;", Cond.fieldLink RX5 12 "ClosExchange" "network" "LClosExchange$Network;", Cond.fieldLink RX5 201 "ClosExchange$Router" "chainLength" "I", Cond.methodLink RX5 198 yX3_tryCall, Cond.instanceMethod yX3_tryCall, Cond.selects RX3 yX3_tryCall yX3_tryCall, Cond.initialized RX3, Cond.code yX3_tryCall cX3_tryCall 4 (some .int), Cond.methodLink RX3 37 yX1_isLine, Cond.instanceMethod yX1_isLine, Cond.selects RX1 yX1_isLine yX1_isLine, Cond.initialized RX1, Cond.code yX1_isLine cX1_isLine 2 (some .boolean), Cond.fieldLink RX1 9 "ClosExchange$Network" "boards" "I", Cond.fieldLink RX1 15 "ClosExchange$Network" "lines" "I", Cond.methodLink RX3 41 yX1_isInletBusy, Cond.instanceMethod yX1_isInletBusy, Cond.selects RX1 yX1_isInletBusy yX1_isInletBusy, Cond.code yX1_isInletBusy cX1_isInletBusy 2 (some .boolean), Cond.fieldLink RX1 29 "ClosExchange$Network" "numbers" "LClosExchange$Row;", Cond.methodLink RX1 77 yX4_get, Cond.instanceMethod yX4_get, Cond.selects RX4 yX4_get yX4_get, Cond.initialized RX4]
def wsX5_wouldMove_r2 : List Cond := [Cond.code yX4_get cX4_get 2 (some .int), Cond.fieldLink RX4 15 "ClosExchange$Row" "cells" "[I", Cond.methodLink RX3 104 yX1_isOutletBusy, Cond.instanceMethod yX1_isOutletBusy, Cond.selects RX1 yX1_isOutletBusy yX1_isOutletBusy, Cond.code yX1_isOutletBusy cX1_isOutletBusy 2 (some .boolean), Cond.fieldLink RX1 39 "ClosExchange$Network" "inlets" "LClosExchange$Row;", Cond.methodLink RX3 107 yX3_findWay, Cond.instanceMethod yX3_findWay, Cond.selects RX3 yX3_findWay yX3_findWay, Cond.code yX3_findWay cX3_findWay 7 (some .int), Cond.fieldLink RX3 119 "ClosExchange$Router" "chainLength" "I", Cond.fieldLink RX3 125 "ClosExchange$Network" "firstLinks" "LClosExchange$Row;", Cond.fieldLink RX3 132 "ClosExchange$Network" "lastLinks" "LClosExchange$Row;", Cond.fieldLink RX3 143 "ClosExchange$Router" "pairP" "I", Cond.methodLink RX3 122 yX1_boardOf, Cond.instanceMethod yX1_boardOf, Cond.selects RX1 yX1_boardOf yX1_boardOf, Cond.code yX1_boardOf cX1_boardOf 2 (some .int), Cond.methodLink RX3 128 yX1_freeOnLinks, Cond.instanceMethod yX1_freeOnLinks, Cond.selects RX1 yX1_freeOnLinks yX1_freeOnLinks, Cond.code yX1_freeOnLinks cX1_freeOnLinks 5 (some .int), Cond.fieldLink RX1 18 "ClosExchange$Network" "middles" "I"]
def wsX5_wouldMove_r3 : List Cond := [Cond.fieldLink RX1 21 "ClosExchange$Network" "service" "I", Cond.static yX5_link, Cond.initialized RX5, Cond.code yX5_link cX5_link 2 (some .int), Cond.methodLink RX3 135 yX3_choose, Cond.instanceMethod yX3_choose, Cond.selects RX3 yX3_choose yX3_choose, Cond.code yX3_choose cX3_choose 8 (some .int), Cond.fieldLink RX3 146 "ClosExchange$Network" "choiceRule" "I", Cond.static yX5_hasBit, Cond.code yX5_hasBit cX5_hasBit 2 (some .boolean), Cond.methodLink RX3 149 yX1_loadOf, Cond.instanceMethod yX1_loadOf, Cond.selects RX1 yX1_loadOf yX1_loadOf, Cond.code yX1_loadOf cX1_loadOf 4 (some .int), Cond.fieldLink RX1 42 "ClosExchange$Network" "firstLinks" "LClosExchange$Row;", Cond.methodLink RX3 139 yX3_findPair, Cond.instanceMethod yX3_findPair, Cond.selects RX3 yX3_findPair yX3_findPair, Cond.code yX3_findPair cX3_findPair 11 none, Cond.fieldLink RX3 155 "ClosExchange$Network" "pairRule" "I", Cond.methodLink RX3 152 yX3_follow, Cond.instanceMethod yX3_follow, Cond.selects RX3 yX3_follow yX3_follow]
def wsX5_wouldMove_r4 : List Cond := [Cond.code yX3_follow cX3_follow 9 none, Cond.fieldLink RX3 158 "ClosExchange$Router" "pairQ" "I", Cond.fieldLink RX3 14 "ClosExchange$Router" "chain" "LClosExchange$Row;", Cond.fieldLink RX3 113 "ClosExchange$Network" "outlets" "LClosExchange$Row;", Cond.methodLink RX3 47 yX4_get, Cond.methodLink RX3 164 yX4_set, Cond.instanceMethod yX4_set, Cond.selects RX4 yX4_set yX4_set, Cond.code yX4_set cX4_set 3 none]
def wsX5_wouldMove : List Cond := .code yX5_wouldMove cX5_wouldMove 4 (some .int) :: ((wsX5_wouldMove_r1 ++ (wsX5_wouldMove_r2 ++ (wsX5_wouldMove_r3 ++ wsX5_wouldMove_r4))) ++ wsX50 ++ wsX30 ++ wsX10 ++ wsX40)
def wsX5_chainCall_r1 : List Cond := [Cond.fieldLink RX5 28 "ClosExchange" "router" "LClosExchange$Router;", Cond.fieldLink RX5 12 "ClosExchange" "network" "LClosExchange$Network;", Cond.fieldLink RX5 201 "ClosExchange$Router" "chainLength" "I", Cond.fieldLink RX5 127 "ClosExchange$Network" "numbers" "LClosExchange$Row;", Cond.fieldLink RX5 204 "ClosExchange$Router" "chain" "LClosExchange$Row;", Cond.methodLink RX5 198 yX3_tryCall, Cond.instanceMethod yX3_tryCall, Cond.selects RX3 yX3_tryCall yX3_tryCall, Cond.initialized RX3, Cond.code yX3_tryCall cX3_tryCall 4 (some .int), Cond.methodLink RX3 37 yX1_isLine, Cond.instanceMethod yX1_isLine, Cond.selects RX1 yX1_isLine yX1_isLine, Cond.initialized RX1, Cond.code yX1_isLine cX1_isLine 2 (some .boolean), Cond.fieldLink RX1 9 "ClosExchange$Network" "boards" "I", Cond.fieldLink RX1 15 "ClosExchange$Network" "lines" "I", Cond.methodLink RX3 41 yX1_isInletBusy, Cond.instanceMethod yX1_isInletBusy, Cond.selects RX1 yX1_isInletBusy yX1_isInletBusy, Cond.code yX1_isInletBusy cX1_isInletBusy 2 (some .boolean), Cond.fieldLink RX1 29 "ClosExchange$Network" "numbers" "LClosExchange$Row;", Cond.methodLink RX1 77 yX4_get, Cond.instanceMethod yX4_get]
def wsX5_chainCall_r2 : List Cond := [Cond.selects RX4 yX4_get yX4_get, Cond.initialized RX4, Cond.code yX4_get cX4_get 2 (some .int), Cond.fieldLink RX4 15 "ClosExchange$Row" "cells" "[I", Cond.methodLink RX3 104 yX1_isOutletBusy, Cond.instanceMethod yX1_isOutletBusy, Cond.selects RX1 yX1_isOutletBusy yX1_isOutletBusy, Cond.code yX1_isOutletBusy cX1_isOutletBusy 2 (some .boolean), Cond.fieldLink RX1 39 "ClosExchange$Network" "inlets" "LClosExchange$Row;", Cond.methodLink RX3 107 yX3_findWay, Cond.instanceMethod yX3_findWay, Cond.selects RX3 yX3_findWay yX3_findWay, Cond.code yX3_findWay cX3_findWay 7 (some .int), Cond.fieldLink RX3 119 "ClosExchange$Router" "chainLength" "I", Cond.fieldLink RX3 125 "ClosExchange$Network" "firstLinks" "LClosExchange$Row;", Cond.fieldLink RX3 132 "ClosExchange$Network" "lastLinks" "LClosExchange$Row;", Cond.fieldLink RX3 143 "ClosExchange$Router" "pairP" "I", Cond.methodLink RX3 122 yX1_boardOf, Cond.instanceMethod yX1_boardOf, Cond.selects RX1 yX1_boardOf yX1_boardOf, Cond.code yX1_boardOf cX1_boardOf 2 (some .int), Cond.methodLink RX3 128 yX1_freeOnLinks, Cond.instanceMethod yX1_freeOnLinks, Cond.selects RX1 yX1_freeOnLinks yX1_freeOnLinks]
def wsX5_chainCall_r3 : List Cond := [Cond.code yX1_freeOnLinks cX1_freeOnLinks 5 (some .int), Cond.fieldLink RX1 18 "ClosExchange$Network" "middles" "I", Cond.fieldLink RX1 21 "ClosExchange$Network" "service" "I", Cond.static yX5_link, Cond.initialized RX5, Cond.code yX5_link cX5_link 2 (some .int), Cond.methodLink RX3 135 yX3_choose, Cond.instanceMethod yX3_choose, Cond.selects RX3 yX3_choose yX3_choose, Cond.code yX3_choose cX3_choose 8 (some .int), Cond.fieldLink RX3 146 "ClosExchange$Network" "choiceRule" "I", Cond.static yX5_hasBit, Cond.code yX5_hasBit cX5_hasBit 2 (some .boolean), Cond.methodLink RX3 149 yX1_loadOf, Cond.instanceMethod yX1_loadOf, Cond.selects RX1 yX1_loadOf yX1_loadOf, Cond.code yX1_loadOf cX1_loadOf 4 (some .int), Cond.fieldLink RX1 42 "ClosExchange$Network" "firstLinks" "LClosExchange$Row;", Cond.methodLink RX3 139 yX3_findPair, Cond.instanceMethod yX3_findPair, Cond.selects RX3 yX3_findPair yX3_findPair, Cond.code yX3_findPair cX3_findPair 11 none, Cond.fieldLink RX3 155 "ClosExchange$Network" "pairRule" "I", Cond.methodLink RX3 152 yX3_follow]
def wsX5_chainCall_r4 : List Cond := [Cond.instanceMethod yX3_follow, Cond.selects RX3 yX3_follow yX3_follow, Cond.code yX3_follow cX3_follow 9 none, Cond.fieldLink RX3 158 "ClosExchange$Router" "pairQ" "I", Cond.fieldLink RX3 14 "ClosExchange$Router" "chain" "LClosExchange$Row;", Cond.fieldLink RX3 113 "ClosExchange$Network" "outlets" "LClosExchange$Row;", Cond.methodLink RX3 47 yX4_get, Cond.methodLink RX3 164 yX4_set, Cond.instanceMethod yX4_set, Cond.selects RX4 yX4_set yX4_set, Cond.code yX4_set cX4_set 3 none, Cond.methodLink RX5 131 yX4_get]
def wsX5_chainCall : List Cond := .code yX5_chainCall cX5_chainCall 5 (some .int) :: ((wsX5_chainCall_r1 ++ (wsX5_chainCall_r2 ++ (wsX5_chainCall_r3 ++ wsX5_chainCall_r4))) ++ wsX50 ++ wsX30 ++ wsX10 ++ wsX40)
def wsX5_reason_r1 : List Cond := [Cond.fieldLink RX5 12 "ClosExchange" "network" "LClosExchange$Network;", Cond.fieldLink RX5 154 "ClosExchange$Network" "firstLinks" "LClosExchange$Row;", Cond.fieldLink RX5 161 "ClosExchange$Network" "lastLinks" "LClosExchange$Row;", Cond.methodLink RX5 124 yX1_isLine, Cond.instanceMethod yX1_isLine, Cond.selects RX1 yX1_isLine yX1_isLine, Cond.initialized RX1, Cond.code yX1_isLine cX1_isLine 2 (some .boolean), Cond.fieldLink RX1 9 "ClosExchange$Network" "boards" "I", Cond.fieldLink RX1 15 "ClosExchange$Network" "lines" "I", Cond.methodLink RX5 207 yX1_isInletBusy, Cond.instanceMethod yX1_isInletBusy, Cond.selects RX1 yX1_isInletBusy yX1_isInletBusy, Cond.code yX1_isInletBusy cX1_isInletBusy 2 (some .boolean), Cond.fieldLink RX1 29 "ClosExchange$Network" "numbers" "LClosExchange$Row;", Cond.methodLink RX1 77 yX4_get, Cond.instanceMethod yX4_get, Cond.selects RX4 yX4_get yX4_get, Cond.initialized RX4, Cond.code yX4_get cX4_get 2 (some .int), Cond.fieldLink RX4 15 "ClosExchange$Row" "cells" "[I", Cond.methodLink RX5 210 yX1_isOutletBusy, Cond.instanceMethod yX1_isOutletBusy, Cond.selects RX1 yX1_isOutletBusy yX1_isOutletBusy]
def wsX5_reason_r2 : List Cond := [Cond.code yX1_isOutletBusy cX1_isOutletBusy 2 (some .boolean), Cond.fieldLink RX1 39 "ClosExchange$Network" "inlets" "LClosExchange$Row;", Cond.methodLink RX5 213 yX1_boardOf, Cond.instanceMethod yX1_boardOf, Cond.selects RX1 yX1_boardOf yX1_boardOf, Cond.code yX1_boardOf cX1_boardOf 2 (some .int), Cond.methodLink RX5 167 yX1_freeOnLinks, Cond.instanceMethod yX1_freeOnLinks, Cond.selects RX1 yX1_freeOnLinks yX1_freeOnLinks, Cond.code yX1_freeOnLinks cX1_freeOnLinks 5 (some .int), Cond.fieldLink RX1 18 "ClosExchange$Network" "middles" "I", Cond.fieldLink RX1 21 "ClosExchange$Network" "service" "I", Cond.static yX5_link, Cond.initialized RX5, Cond.code yX5_link cX5_link 2 (some .int)]
def wsX5_reason : List Cond := .code yX5_reason cX5_reason 5 (some .int) :: ((wsX5_reason_r1 ++ wsX5_reason_r2) ++ wsX50 ++ wsX10 ++ wsX40)
def wsX5_leastMiddles_r1 : List Cond := [Cond.fieldLink RX5 12 "ClosExchange" "network" "LClosExchange$Network;", Cond.methodLink RX5 216 yX1_fullestBoard, Cond.instanceMethod yX1_fullestBoard, Cond.selects RX1 yX1_fullestBoard yX1_fullestBoard, Cond.initialized RX1, Cond.code yX1_fullestBoard cX1_fullestBoard 6 (some .int), Cond.fieldLink RX1 9 "ClosExchange$Network" "boards" "I", Cond.fieldLink RX1 15 "ClosExchange$Network" "lines" "I", Cond.methodLink RX1 92 Lib.Math.max.name, Cond.static Lib.Math.max.name, Cond.initialized "java/lang/Math", Cond.code Lib.Math.max.name Lib.Math.max.code 2 (some .int), Cond.methodLink RX1 85 yX1_isInletBusy, Cond.instanceMethod yX1_isInletBusy, Cond.selects RX1 yX1_isInletBusy yX1_isInletBusy, Cond.code yX1_isInletBusy cX1_isInletBusy 2 (some .boolean), Cond.fieldLink RX1 29 "ClosExchange$Network" "numbers" "LClosExchange$Row;", Cond.methodLink RX1 77 yX4_get, Cond.instanceMethod yX4_get, Cond.selects RX4 yX4_get yX4_get, Cond.initialized RX4, Cond.code yX4_get cX4_get 2 (some .int), Cond.fieldLink RX4 15 "ClosExchange$Row" "cells" "[I", Cond.methodLink RX1 89 yX1_isOutletBusy]
def wsX5_leastMiddles_r2 : List Cond := [Cond.instanceMethod yX1_isOutletBusy, Cond.selects RX1 yX1_isOutletBusy yX1_isOutletBusy, Cond.code yX1_isOutletBusy cX1_isOutletBusy 2 (some .boolean), Cond.fieldLink RX1 39 "ClosExchange$Network" "inlets" "LClosExchange$Row;"]
def wsX5_leastMiddles : List Cond := .code yX5_leastMiddles cX5_leastMiddles 1 (some .int) :: ((wsX5_leastMiddles_r1 ++ wsX5_leastMiddles_r2) ++ wsX50 ++ wsX10 ++ wsX40)
def wsX5_wouldDrop_r1 : List Cond := [Cond.fieldLink RX5 22 "ClosExchange" "trial" "LClosExchange$Network;", Cond.fieldLink RX5 12 "ClosExchange" "network" "LClosExchange$Network;", Cond.fieldLink RX5 28 "ClosExchange" "router" "LClosExchange$Router;", Cond.methodLink RX5 69 yX1_copyFrom, Cond.instanceMethod yX1_copyFrom, Cond.selects RX1 yX1_copyFrom yX1_copyFrom, Cond.initialized RX1, Cond.code yX1_copyFrom cX1_copyFrom 2 none, Cond.fieldLink RX1 9 "ClosExchange$Network" "boards" "I", Cond.fieldLink RX1 15 "ClosExchange$Network" "lines" "I", Cond.fieldLink RX1 18 "ClosExchange$Network" "middles" "I", Cond.fieldLink RX1 21 "ClosExchange$Network" "service" "I", Cond.fieldLink RX1 48 "ClosExchange$Network" "choiceRule" "I", Cond.fieldLink RX1 51 "ClosExchange$Network" "pairRule" "I", Cond.fieldLink RX1 54 "ClosExchange$Network" "connected" "I", Cond.fieldLink RX1 57 "ClosExchange$Network" "ended" "I", Cond.fieldLink RX1 60 "ClosExchange$Network" "dropped" "I", Cond.fieldLink RX1 63 "ClosExchange$Network" "moved" "I", Cond.fieldLink RX1 29 "ClosExchange$Network" "numbers" "LClosExchange$Row;", Cond.fieldLink RX1 33 "ClosExchange$Network" "outlets" "LClosExchange$Row;", Cond.fieldLink RX1 36 "ClosExchange$Network" "vias" "LClosExchange$Row;", Cond.fieldLink RX1 39 "ClosExchange$Network" "inlets" "LClosExchange$Row;", Cond.fieldLink RX1 42 "ClosExchange$Network" "firstLinks" "LClosExchange$Row;", Cond.fieldLink RX1 45 "ClosExchange$Network" "lastLinks" "LClosExchange$Row;"]
def wsX5_wouldDrop_r2 : List Cond := [Cond.methodLink RX1 66 yX4_copyFrom, Cond.instanceMethod yX4_copyFrom, Cond.selects RX4 yX4_copyFrom yX4_copyFrom, Cond.initialized RX4, Cond.code yX4_copyFrom cX4_copyFrom 2 none, Cond.fieldLink RX4 15 "ClosExchange$Row" "cells" "[I", Cond.methodLink RX4 27 Lib.Math.min.name, Cond.static Lib.Math.min.name, Cond.initialized "java/lang/Math", Cond.code Lib.Math.min.name Lib.Math.min.code 2 (some .int), Cond.methodLink RX4 30 arraycopyName, Cond.native arraycopyName, Cond.static arraycopyName, Cond.initialized "java/lang/System", Cond.methodLink RX5 84 yX3_retire, Cond.instanceMethod yX3_retire, Cond.selects RX3 yX3_retire yX3_retire, Cond.initialized RX3, Cond.code yX3_retire cX3_retire 4 (some .int), Cond.fieldLink RX3 61 "ClosExchange$Network" "service" "I", Cond.fieldLink RX3 68 "ClosExchange$Network" "vias" "LClosExchange$Row;", Cond.methodLink RX3 58 yX1_isMiddle, Cond.instanceMethod yX1_isMiddle, Cond.selects RX1 yX1_isMiddle yX1_isMiddle]
def wsX5_wouldDrop_r3 : List Cond := [Cond.code yX1_isMiddle cX1_isMiddle 2 (some .boolean), Cond.static yX5_hasBit, Cond.initialized RX5, Cond.code yX5_hasBit cX5_hasBit 2 (some .boolean), Cond.methodLink RX3 47 yX4_get, Cond.instanceMethod yX4_get, Cond.selects RX4 yX4_get yX4_get, Cond.code yX4_get cX4_get 2 (some .int), Cond.methodLink RX3 71 yX1_liftCall, Cond.instanceMethod yX1_liftCall, Cond.selects RX1 yX1_liftCall yX1_liftCall, Cond.code yX1_liftCall cX1_liftCall 3 none, Cond.methodLink RX1 77 yX4_get, Cond.methodLink RX1 104 yX1_boardOf, Cond.instanceMethod yX1_boardOf, Cond.selects RX1 yX1_boardOf yX1_boardOf, Cond.code yX1_boardOf cX1_boardOf 2 (some .int), Cond.static yX5_link, Cond.code yX5_link cX5_link 2 (some .int), Cond.methodLink RX1 97 yX4_set, Cond.instanceMethod yX4_set, Cond.selects RX4 yX4_set yX4_set, Cond.code yX4_set cX4_set 3 none, Cond.methodLink RX3 74 yX3_reroute]
def wsX5_wouldDrop_r4 : List Cond := [Cond.instanceMethod yX3_reroute, Cond.selects RX3 yX3_reroute yX3_reroute, Cond.code yX3_reroute cX3_reroute 6 (some .int), Cond.fieldLink RX3 113 "ClosExchange$Network" "outlets" "LClosExchange$Row;", Cond.fieldLink RX3 87 "ClosExchange$Network" "moved" "I", Cond.fieldLink RX3 116 "ClosExchange$Network" "dropped" "I", Cond.methodLink RX3 110 yX1_firstLifted, Cond.instanceMethod yX1_firstLifted, Cond.selects RX1 yX1_firstLifted yX1_firstLifted, Cond.code yX1_firstLifted cX1_firstLifted 3 (some .int), Cond.methodLink RX1 85 yX1_isInletBusy, Cond.instanceMethod yX1_isInletBusy, Cond.selects RX1 yX1_isInletBusy yX1_isInletBusy, Cond.code yX1_isInletBusy cX1_isInletBusy 2 (some .boolean), Cond.methodLink RX3 107 yX3_findWay, Cond.instanceMethod yX3_findWay, Cond.selects RX3 yX3_findWay yX3_findWay, Cond.code yX3_findWay cX3_findWay 7 (some .int), Cond.fieldLink RX3 119 "ClosExchange$Router" "chainLength" "I", Cond.fieldLink RX3 125 "ClosExchange$Network" "firstLinks" "LClosExchange$Row;", Cond.fieldLink RX3 132 "ClosExchange$Network" "lastLinks" "LClosExchange$Row;", Cond.fieldLink RX3 143 "ClosExchange$Router" "pairP" "I", Cond.methodLink RX3 122 yX1_boardOf, Cond.methodLink RX3 128 yX1_freeOnLinks]
def wsX5_wouldDrop_r5 : List Cond := [Cond.instanceMethod yX1_freeOnLinks, Cond.selects RX1 yX1_freeOnLinks yX1_freeOnLinks, Cond.code yX1_freeOnLinks cX1_freeOnLinks 5 (some .int), Cond.methodLink RX3 135 yX3_choose, Cond.instanceMethod yX3_choose, Cond.selects RX3 yX3_choose yX3_choose, Cond.code yX3_choose cX3_choose 8 (some .int), Cond.fieldLink RX3 146 "ClosExchange$Network" "choiceRule" "I", Cond.methodLink RX3 149 yX1_loadOf, Cond.instanceMethod yX1_loadOf, Cond.selects RX1 yX1_loadOf yX1_loadOf, Cond.code yX1_loadOf cX1_loadOf 4 (some .int), Cond.methodLink RX3 139 yX3_findPair, Cond.instanceMethod yX3_findPair, Cond.selects RX3 yX3_findPair yX3_findPair, Cond.code yX3_findPair cX3_findPair 11 none, Cond.fieldLink RX3 155 "ClosExchange$Network" "pairRule" "I", Cond.methodLink RX3 152 yX3_follow, Cond.instanceMethod yX3_follow, Cond.selects RX3 yX3_follow yX3_follow, Cond.code yX3_follow cX3_follow 9 none, Cond.fieldLink RX3 158 "ClosExchange$Router" "pairQ" "I", Cond.fieldLink RX3 14 "ClosExchange$Router" "chain" "LClosExchange$Row;", Cond.methodLink RX3 164 yX4_set]
def wsX5_wouldDrop_r6 : List Cond := [Cond.methodLink RX3 51 yX1_removeCall, Cond.instanceMethod yX1_removeCall, Cond.selects RX1 yX1_removeCall yX1_removeCall, Cond.code yX1_removeCall cX1_removeCall 2 none, Cond.methodLink RX1 101 yX1_liftCall, Cond.methodLink RX3 33 yX3_settle, Cond.instanceMethod yX3_settle, Cond.selects RX3 yX3_settle yX3_settle, Cond.code yX3_settle cX3_settle 5 none, Cond.methodLink RX3 167 yX1_carryCall, Cond.instanceMethod yX1_carryCall, Cond.selects RX1 yX1_carryCall yX1_carryCall, Cond.code yX1_carryCall cX1_carryCall 3 none]
def wsX5_wouldDrop : List Cond := .code yX5_wouldDrop cX5_wouldDrop 2 (some .int) :: ((wsX5_wouldDrop_r1 ++ (wsX5_wouldDrop_r2 ++ (wsX5_wouldDrop_r3 ++ (wsX5_wouldDrop_r4 ++ (wsX5_wouldDrop_r5 ++ wsX5_wouldDrop_r6))))) ++ wsX50 ++ wsX10 ++ wsX40 ++ wsX30)
def wsX5_reachable_r1 : List Cond := [Cond.fieldLink RX5 12 "ClosExchange" "network" "LClosExchange$Network;", Cond.fieldLink RX5 154 "ClosExchange$Network" "firstLinks" "LClosExchange$Row;", Cond.fieldLink RX5 161 "ClosExchange$Network" "lastLinks" "LClosExchange$Row;", Cond.methodLink RX5 124 yX1_isLine, Cond.instanceMethod yX1_isLine, Cond.selects RX1 yX1_isLine yX1_isLine, Cond.initialized RX1, Cond.code yX1_isLine cX1_isLine 2 (some .boolean), Cond.fieldLink RX1 9 "ClosExchange$Network" "boards" "I", Cond.fieldLink RX1 15 "ClosExchange$Network" "lines" "I", Cond.methodLink RX5 207 yX1_isInletBusy, Cond.instanceMethod yX1_isInletBusy, Cond.selects RX1 yX1_isInletBusy yX1_isInletBusy, Cond.code yX1_isInletBusy cX1_isInletBusy 2 (some .boolean), Cond.fieldLink RX1 29 "ClosExchange$Network" "numbers" "LClosExchange$Row;", Cond.methodLink RX1 77 yX4_get, Cond.instanceMethod yX4_get, Cond.selects RX4 yX4_get yX4_get, Cond.initialized RX4, Cond.code yX4_get cX4_get 2 (some .int), Cond.fieldLink RX4 15 "ClosExchange$Row" "cells" "[I", Cond.methodLink RX5 213 yX1_boardOf, Cond.instanceMethod yX1_boardOf, Cond.selects RX1 yX1_boardOf yX1_boardOf]
def wsX5_reachable_r2 : List Cond := [Cond.code yX1_boardOf cX1_boardOf 2 (some .int), Cond.methodLink RX5 167 yX1_freeOnLinks, Cond.instanceMethod yX1_freeOnLinks, Cond.selects RX1 yX1_freeOnLinks yX1_freeOnLinks, Cond.code yX1_freeOnLinks cX1_freeOnLinks 5 (some .int), Cond.fieldLink RX1 18 "ClosExchange$Network" "middles" "I", Cond.fieldLink RX1 21 "ClosExchange$Network" "service" "I", Cond.static yX5_link, Cond.initialized RX5, Cond.code yX5_link cX5_link 2 (some .int), Cond.methodLink RX5 210 yX1_isOutletBusy, Cond.instanceMethod yX1_isOutletBusy, Cond.selects RX1 yX1_isOutletBusy yX1_isOutletBusy, Cond.code yX1_isOutletBusy cX1_isOutletBusy 2 (some .boolean), Cond.fieldLink RX1 39 "ClosExchange$Network" "inlets" "LClosExchange$Row;"]
def wsX5_reachable : List Cond := .code yX5_reachable cX5_reachable 6 (some .int) :: ((wsX5_reachable_r1 ++ wsX5_reachable_r2) ++ wsX50 ++ wsX10 ++ wsX40)
def wsX6_lay : List Cond := .code yX6_lay cX6_lay 5 none :: ([.fieldLink RX6 7 "ClosExchangeModel" "s" "[I"] ++ wsX60)
def wsX6_builds : List Cond := .code yX6_builds cX6_builds 6 none :: ([.fieldLink RX6 7 "ClosExchangeModel" "s" "[I", .methodLink RX6 38 yX6_lay, .instanceMethod yX6_lay, .selects RX6 yX6_lay yX6_lay, .initialized RX6, .code yX6_lay cX6_lay 5 none] ++ wsX60)
def wsX6_init : List Cond := .code yX6_init cX6_init 1 none :: ([.methodLink RX6 1 objectInit, .instanceMethod objectInit, .code objectInit ⟨#[0xb1]⟩ 1 none, .arrayClass .int, .fieldLink RX6 7 "ClosExchangeModel" "s" "[I", .fieldLink RX6 13 "ClosExchangeModel" "text" "[I", .fieldLink RX6 16 "ClosExchangeModel" "chain" "[I", .fieldLink RX6 19 "ClosExchangeModel" "before" "[I", .methodLink RX6 22 yX6_builds, .instanceMethod yX6_builds, .selects RX6 yX6_builds yX6_builds, .initialized RX6, .code yX6_builds cX6_builds 6 none, .methodLink RX6 38 yX6_lay, .instanceMethod yX6_lay, .selects RX6 yX6_lay yX6_lay, .code yX6_lay cX6_lay 5 none] ++ wsX60)
def wsX6_in : List Cond := .code yX6_in cX6_in 3 (some .boolean) :: ([])
def wsX6_has : List Cond := .code yX6_has cX6_has 2 (some .boolean) :: ([])
def wsX6_lowest : List Cond := .code yX6_lowest cX6_lowest 2 (some .int) :: ([.methodLink RX6 26 yX6_has, .static yX6_has, .initialized RX6, .code yX6_has cX6_has 2 (some .boolean)])
def wsX6_bits : List Cond := .code yX6_bits cX6_bits 3 (some .int) :: ([])
def wsX6_of : List Cond := .code yX6_of cX6_of 4 (some .int) :: ([.fieldLink RX6 7 "ClosExchangeModel" "s" "[I"] ++ wsX60)
def wsX6_lines : List Cond := .code yX6_lines cX6_lines 2 (some .int) :: ([.fieldLink RX6 7 "ClosExchangeModel" "s" "[I"] ++ wsX60)
def wsX6_isLine : List Cond := .code yX6_isLine cX6_isLine 3 (some .boolean) :: ([.methodLink RX6 30 yX6_lines, .instanceMethod yX6_lines, .selects RX6 yX6_lines yX6_lines, .initialized RX6, .code yX6_lines cX6_lines 2 (some .int), .fieldLink RX6 7 "ClosExchangeModel" "s" "[I", .methodLink RX6 34 yX6_in, .static yX6_in, .code yX6_in cX6_in 3 (some .boolean)] ++ wsX60)
def wsX6_isBoard : List Cond := .code yX6_isBoard cX6_isBoard 2 (some .boolean) :: ([.fieldLink RX6 7 "ClosExchangeModel" "s" "[I", .methodLink RX6 34 yX6_in, .static yX6_in, .initialized RX6, .code yX6_in cX6_in 3 (some .boolean)] ++ wsX60)
def wsX6_isMiddle : List Cond := .code yX6_isMiddle cX6_isMiddle 3 (some .boolean) :: ([.fieldLink RX6 7 "ClosExchangeModel" "s" "[I", .methodLink RX6 34 yX6_in, .static yX6_in, .initialized RX6, .code yX6_in cX6_in 3 (some .boolean)] ++ wsX60)
def wsX6_calls : List Cond := .code yX6_calls cX6_calls 4 (some .int) :: ([.methodLink RX6 30 yX6_lines, .instanceMethod yX6_lines, .selects RX6 yX6_lines yX6_lines, .initialized RX6, .code yX6_lines cX6_lines 2 (some .int), .fieldLink RX6 7 "ClosExchangeModel" "s" "[I", .methodLink RX6 41 yX6_of, .instanceMethod yX6_of, .selects RX6 yX6_of yX6_of, .code yX6_of cX6_of 4 (some .int)] ++ wsX60)
def wsX6_inletTo : List Cond := .code yX6_inletTo cX6_inletTo 4 (some .int) :: ([.methodLink RX6 30 yX6_lines, .instanceMethod yX6_lines, .selects RX6 yX6_lines yX6_lines, .initialized RX6, .code yX6_lines cX6_lines 2 (some .int), .fieldLink RX6 7 "ClosExchangeModel" "s" "[I", .methodLink RX6 41 yX6_of, .instanceMethod yX6_of, .selects RX6 yX6_of yX6_of, .code yX6_of cX6_of 4 (some .int)] ++ wsX60)
def wsX6_onFirst : List Cond := .code yX6_onFirst cX6_onFirst 5 (some .int) :: ([.fieldLink RX6 7 "ClosExchangeModel" "s" "[I", .methodLink RX6 30 yX6_lines, .instanceMethod yX6_lines, .selects RX6 yX6_lines yX6_lines, .initialized RX6, .code yX6_lines cX6_lines 2 (some .int), .methodLink RX6 41 yX6_of, .instanceMethod yX6_of, .selects RX6 yX6_of yX6_of, .code yX6_of cX6_of 4 (some .int)] ++ wsX60)
def wsX6_onLast : List Cond := .code yX6_onLast cX6_onLast 5 (some .int) :: ([.fieldLink RX6 7 "ClosExchangeModel" "s" "[I", .methodLink RX6 30 yX6_lines, .instanceMethod yX6_lines, .selects RX6 yX6_lines yX6_lines, .initialized RX6, .code yX6_lines cX6_lines 2 (some .int), .methodLink RX6 41 yX6_of, .instanceMethod yX6_of, .selects RX6 yX6_of yX6_of, .code yX6_of cX6_of 4 (some .int)] ++ wsX60)
def wsX6_loadOf : List Cond := .code yX6_loadOf cX6_loadOf 5 (some .int) :: ([.methodLink RX6 30 yX6_lines, .instanceMethod yX6_lines, .selects RX6 yX6_lines yX6_lines, .initialized RX6, .code yX6_lines cX6_lines 2 (some .int), .fieldLink RX6 7 "ClosExchangeModel" "s" "[I", .methodLink RX6 41 yX6_of, .instanceMethod yX6_of, .selects RX6 yX6_of yX6_of, .code yX6_of cX6_of 4 (some .int)] ++ wsX60)
def wsX6_freeAhead : List Cond := .code yX6_freeAhead cX6_freeAhead 5 (some .int) :: ([.fieldLink RX6 7 "ClosExchangeModel" "s" "[I", .methodLink RX6 26 yX6_has, .static yX6_has, .initialized RX6, .code yX6_has cX6_has 2 (some .boolean), .methodLink RX6 45 yX6_onFirst, .instanceMethod yX6_onFirst, .selects RX6 yX6_onFirst yX6_onFirst, .code yX6_onFirst cX6_onFirst 5 (some .int), .methodLink RX6 30 yX6_lines, .instanceMethod yX6_lines, .selects RX6 yX6_lines yX6_lines, .code yX6_lines cX6_lines 2 (some .int), .methodLink RX6 41 yX6_of, .instanceMethod yX6_of, .selects RX6 yX6_of yX6_of, .code yX6_of cX6_of 4 (some .int)] ++ wsX60)
def wsX6_freeBehind : List Cond := .code yX6_freeBehind cX6_freeBehind 5 (some .int) :: ([.fieldLink RX6 7 "ClosExchangeModel" "s" "[I", .methodLink RX6 26 yX6_has, .static yX6_has, .initialized RX6, .code yX6_has cX6_has 2 (some .boolean), .methodLink RX6 48 yX6_onLast, .instanceMethod yX6_onLast, .selects RX6 yX6_onLast yX6_onLast, .code yX6_onLast cX6_onLast 5 (some .int), .methodLink RX6 30 yX6_lines, .instanceMethod yX6_lines, .selects RX6 yX6_lines yX6_lines, .code yX6_lines cX6_lines 2 (some .int), .methodLink RX6 41 yX6_of, .instanceMethod yX6_of, .selects RX6 yX6_of yX6_of, .code yX6_of cX6_of 4 (some .int)] ++ wsX60)
def wsX6_chosen : List Cond := .code yX6_chosen cX6_chosen 7 (some .int) :: ([.fieldLink RX6 7 "ClosExchangeModel" "s" "[I", .methodLink RX6 51 yX6_lowest, .static yX6_lowest, .initialized RX6, .code yX6_lowest cX6_lowest 2 (some .int), .methodLink RX6 26 yX6_has, .static yX6_has, .code yX6_has cX6_has 2 (some .boolean), .methodLink RX6 54 yX6_loadOf, .instanceMethod yX6_loadOf, .selects RX6 yX6_loadOf yX6_loadOf, .code yX6_loadOf cX6_loadOf 5 (some .int), .methodLink RX6 30 yX6_lines, .instanceMethod yX6_lines, .selects RX6 yX6_lines yX6_lines, .code yX6_lines cX6_lines 2 (some .int), .methodLink RX6 41 yX6_of, .instanceMethod yX6_of, .selects RX6 yX6_of yX6_of, .code yX6_of cX6_of 4 (some .int)] ++ wsX60)
def wsX6_lays : List Cond := .code yX6_lays cX6_lays 8 (some .int) :: ([.fieldLink RX6 16 "ClosExchangeModel" "chain" "[I", .fieldLink RX6 7 "ClosExchangeModel" "s" "[I", .methodLink RX6 48 yX6_onLast, .instanceMethod yX6_onLast, .selects RX6 yX6_onLast yX6_onLast, .initialized RX6, .code yX6_onLast cX6_onLast 5 (some .int), .methodLink RX6 30 yX6_lines, .instanceMethod yX6_lines, .selects RX6 yX6_lines yX6_lines, .code yX6_lines cX6_lines 2 (some .int), .methodLink RX6 41 yX6_of, .instanceMethod yX6_of, .selects RX6 yX6_of yX6_of, .code yX6_of cX6_of 4 (some .int), .methodLink RX6 45 yX6_onFirst, .instanceMethod yX6_onFirst, .selects RX6 yX6_onFirst yX6_onFirst, .code yX6_onFirst cX6_onFirst 5 (some .int)] ++ wsX60)
def wsX6_pairOf_r1 : List Cond := [Cond.fieldLink RX6 7 "ClosExchangeModel" "s" "[I", Cond.methodLink RX6 51 yX6_lowest, Cond.static yX6_lowest, Cond.initialized RX6, Cond.code yX6_lowest cX6_lowest 2 (some .int), Cond.methodLink RX6 26 yX6_has, Cond.static yX6_has, Cond.code yX6_has cX6_has 2 (some .boolean), Cond.methodLink RX6 58 yX6_lays, Cond.instanceMethod yX6_lays, Cond.selects RX6 yX6_lays yX6_lays, Cond.code yX6_lays cX6_lays 8 (some .int), Cond.fieldLink RX6 16 "ClosExchangeModel" "chain" "[I", Cond.methodLink RX6 48 yX6_onLast, Cond.instanceMethod yX6_onLast, Cond.selects RX6 yX6_onLast yX6_onLast, Cond.code yX6_onLast cX6_onLast 5 (some .int), Cond.methodLink RX6 30 yX6_lines, Cond.instanceMethod yX6_lines, Cond.selects RX6 yX6_lines yX6_lines, Cond.code yX6_lines cX6_lines 2 (some .int), Cond.methodLink RX6 41 yX6_of, Cond.instanceMethod yX6_of, Cond.selects RX6 yX6_of yX6_of]
def wsX6_pairOf_r2 : List Cond := [Cond.code yX6_of cX6_of 4 (some .int), Cond.methodLink RX6 45 yX6_onFirst, Cond.instanceMethod yX6_onFirst, Cond.selects RX6 yX6_onFirst yX6_onFirst, Cond.code yX6_onFirst cX6_onFirst 5 (some .int)]
def wsX6_pairOf : List Cond := .code yX6_pairOf cX6_pairOf 10 (some .int) :: ((wsX6_pairOf_r1 ++ wsX6_pairOf_r2) ++ wsX60)
def wsX6_routes_r1 : List Cond := [Cond.fieldLink RX6 7 "ClosExchangeModel" "s" "[I", Cond.fieldLink RX6 68 "ClosExchangeModel" "chained" "I", Cond.fieldLink RX6 16 "ClosExchangeModel" "chain" "[I", Cond.methodLink RX6 41 yX6_of, Cond.instanceMethod yX6_of, Cond.selects RX6 yX6_of yX6_of, Cond.initialized RX6, Cond.code yX6_of cX6_of 4 (some .int), Cond.methodLink RX6 62 yX6_freeAhead, Cond.instanceMethod yX6_freeAhead, Cond.selects RX6 yX6_freeAhead yX6_freeAhead, Cond.code yX6_freeAhead cX6_freeAhead 5 (some .int), Cond.methodLink RX6 26 yX6_has, Cond.static yX6_has, Cond.code yX6_has cX6_has 2 (some .boolean), Cond.methodLink RX6 45 yX6_onFirst, Cond.instanceMethod yX6_onFirst, Cond.selects RX6 yX6_onFirst yX6_onFirst, Cond.code yX6_onFirst cX6_onFirst 5 (some .int), Cond.methodLink RX6 30 yX6_lines, Cond.instanceMethod yX6_lines, Cond.selects RX6 yX6_lines yX6_lines, Cond.code yX6_lines cX6_lines 2 (some .int), Cond.methodLink RX6 65 yX6_freeBehind]
def wsX6_routes_r2 : List Cond := [Cond.instanceMethod yX6_freeBehind, Cond.selects RX6 yX6_freeBehind yX6_freeBehind, Cond.code yX6_freeBehind cX6_freeBehind 5 (some .int), Cond.methodLink RX6 48 yX6_onLast, Cond.instanceMethod yX6_onLast, Cond.selects RX6 yX6_onLast yX6_onLast, Cond.code yX6_onLast cX6_onLast 5 (some .int), Cond.methodLink RX6 72 yX6_chosen, Cond.instanceMethod yX6_chosen, Cond.selects RX6 yX6_chosen yX6_chosen, Cond.code yX6_chosen cX6_chosen 7 (some .int), Cond.methodLink RX6 51 yX6_lowest, Cond.static yX6_lowest, Cond.code yX6_lowest cX6_lowest 2 (some .int), Cond.methodLink RX6 54 yX6_loadOf, Cond.instanceMethod yX6_loadOf, Cond.selects RX6 yX6_loadOf yX6_loadOf, Cond.code yX6_loadOf cX6_loadOf 5 (some .int), Cond.methodLink RX6 38 yX6_lay, Cond.instanceMethod yX6_lay, Cond.selects RX6 yX6_lay yX6_lay, Cond.code yX6_lay cX6_lay 5 none, Cond.methodLink RX6 75 yX6_pairOf, Cond.instanceMethod yX6_pairOf]
def wsX6_routes_r3 : List Cond := [Cond.selects RX6 yX6_pairOf yX6_pairOf, Cond.code yX6_pairOf cX6_pairOf 10 (some .int), Cond.methodLink RX6 58 yX6_lays, Cond.instanceMethod yX6_lays, Cond.selects RX6 yX6_lays yX6_lays, Cond.code yX6_lays cX6_lays 8 (some .int)]
def wsX6_routes : List Cond := .code yX6_routes cX6_routes 9 (some .int) :: ((wsX6_routes_r1 ++ (wsX6_routes_r2 ++ wsX6_routes_r3)) ++ wsX60)
def wsX6_nextOff : List Cond := .code yX6_nextOff cX6_nextOff 5 (some .int) :: ([.methodLink RX6 30 yX6_lines, .instanceMethod yX6_lines, .selects RX6 yX6_lines yX6_lines, .initialized RX6, .code yX6_lines cX6_lines 2 (some .int), .fieldLink RX6 7 "ClosExchangeModel" "s" "[I", .methodLink RX6 41 yX6_of, .instanceMethod yX6_of, .selects RX6 yX6_of yX6_of, .code yX6_of cX6_of 4 (some .int)] ++ wsX60)
def wsX6_connects_r1 : List Cond := [Cond.fieldLink RX6 7 "ClosExchangeModel" "s" "[I", Cond.methodLink RX6 78 yX6_isLine, Cond.instanceMethod yX6_isLine, Cond.selects RX6 yX6_isLine yX6_isLine, Cond.initialized RX6, Cond.code yX6_isLine cX6_isLine 3 (some .boolean), Cond.methodLink RX6 30 yX6_lines, Cond.instanceMethod yX6_lines, Cond.selects RX6 yX6_lines yX6_lines, Cond.code yX6_lines cX6_lines 2 (some .int), Cond.methodLink RX6 34 yX6_in, Cond.static yX6_in, Cond.code yX6_in cX6_in 3 (some .boolean), Cond.methodLink RX6 41 yX6_of, Cond.instanceMethod yX6_of, Cond.selects RX6 yX6_of yX6_of, Cond.code yX6_of cX6_of 4 (some .int), Cond.methodLink RX6 81 yX6_inletTo, Cond.instanceMethod yX6_inletTo, Cond.selects RX6 yX6_inletTo yX6_inletTo, Cond.code yX6_inletTo cX6_inletTo 4 (some .int), Cond.methodLink RX6 38 yX6_lay, Cond.instanceMethod yX6_lay, Cond.selects RX6 yX6_lay yX6_lay]
def wsX6_connects_r2 : List Cond := [Cond.code yX6_lay cX6_lay 5 none, Cond.methodLink RX6 84 yX6_routes, Cond.instanceMethod yX6_routes, Cond.selects RX6 yX6_routes yX6_routes, Cond.code yX6_routes cX6_routes 9 (some .int), Cond.fieldLink RX6 68 "ClosExchangeModel" "chained" "I", Cond.fieldLink RX6 16 "ClosExchangeModel" "chain" "[I", Cond.methodLink RX6 62 yX6_freeAhead, Cond.instanceMethod yX6_freeAhead, Cond.selects RX6 yX6_freeAhead yX6_freeAhead, Cond.code yX6_freeAhead cX6_freeAhead 5 (some .int), Cond.methodLink RX6 26 yX6_has, Cond.static yX6_has, Cond.code yX6_has cX6_has 2 (some .boolean), Cond.methodLink RX6 45 yX6_onFirst, Cond.instanceMethod yX6_onFirst, Cond.selects RX6 yX6_onFirst yX6_onFirst, Cond.code yX6_onFirst cX6_onFirst 5 (some .int), Cond.methodLink RX6 65 yX6_freeBehind, Cond.instanceMethod yX6_freeBehind, Cond.selects RX6 yX6_freeBehind yX6_freeBehind, Cond.code yX6_freeBehind cX6_freeBehind 5 (some .int), Cond.methodLink RX6 48 yX6_onLast, Cond.instanceMethod yX6_onLast]
def wsX6_connects_r3 : List Cond := [Cond.selects RX6 yX6_onLast yX6_onLast, Cond.code yX6_onLast cX6_onLast 5 (some .int), Cond.methodLink RX6 72 yX6_chosen, Cond.instanceMethod yX6_chosen, Cond.selects RX6 yX6_chosen yX6_chosen, Cond.code yX6_chosen cX6_chosen 7 (some .int), Cond.methodLink RX6 51 yX6_lowest, Cond.static yX6_lowest, Cond.code yX6_lowest cX6_lowest 2 (some .int), Cond.methodLink RX6 54 yX6_loadOf, Cond.instanceMethod yX6_loadOf, Cond.selects RX6 yX6_loadOf yX6_loadOf, Cond.code yX6_loadOf cX6_loadOf 5 (some .int), Cond.methodLink RX6 75 yX6_pairOf, Cond.instanceMethod yX6_pairOf, Cond.selects RX6 yX6_pairOf yX6_pairOf, Cond.code yX6_pairOf cX6_pairOf 10 (some .int), Cond.methodLink RX6 58 yX6_lays, Cond.instanceMethod yX6_lays, Cond.selects RX6 yX6_lays yX6_lays, Cond.code yX6_lays cX6_lays 8 (some .int)]
def wsX6_connects : List Cond := .code yX6_connects cX6_connects 4 (some .int) :: ((wsX6_connects_r1 ++ (wsX6_connects_r2 ++ wsX6_connects_r3)) ++ wsX60)
def wsX6_disconnects : List Cond := .code yX6_disconnects cX6_disconnects 4 (some .int) :: ([.fieldLink RX6 7 "ClosExchangeModel" "s" "[I", .methodLink RX6 78 yX6_isLine, .instanceMethod yX6_isLine, .selects RX6 yX6_isLine yX6_isLine, .initialized RX6, .code yX6_isLine cX6_isLine 3 (some .boolean), .methodLink RX6 30 yX6_lines, .instanceMethod yX6_lines, .selects RX6 yX6_lines yX6_lines, .code yX6_lines cX6_lines 2 (some .int), .methodLink RX6 34 yX6_in, .static yX6_in, .code yX6_in cX6_in 3 (some .boolean), .methodLink RX6 41 yX6_of, .instanceMethod yX6_of, .selects RX6 yX6_of yX6_of, .code yX6_of cX6_of 4 (some .int), .methodLink RX6 38 yX6_lay, .instanceMethod yX6_lay, .selects RX6 yX6_lay yX6_lay, .code yX6_lay cX6_lay 5 none] ++ wsX60)
def wsX6_takesOut_r1 : List Cond := [Cond.fieldLink RX6 7 "ClosExchangeModel" "s" "[I", Cond.methodLink RX6 87 yX6_isMiddle, Cond.instanceMethod yX6_isMiddle, Cond.selects RX6 yX6_isMiddle yX6_isMiddle, Cond.initialized RX6, Cond.code yX6_isMiddle cX6_isMiddle 3 (some .boolean), Cond.methodLink RX6 34 yX6_in, Cond.static yX6_in, Cond.code yX6_in cX6_in 3 (some .boolean), Cond.methodLink RX6 26 yX6_has, Cond.static yX6_has, Cond.code yX6_has cX6_has 2 (some .boolean), Cond.methodLink RX6 30 yX6_lines, Cond.instanceMethod yX6_lines, Cond.selects RX6 yX6_lines yX6_lines, Cond.code yX6_lines cX6_lines 2 (some .int), Cond.methodLink RX6 41 yX6_of, Cond.instanceMethod yX6_of, Cond.selects RX6 yX6_of yX6_of, Cond.code yX6_of cX6_of 4 (some .int), Cond.methodLink RX6 38 yX6_lay, Cond.instanceMethod yX6_lay, Cond.selects RX6 yX6_lay yX6_lay, Cond.code yX6_lay cX6_lay 5 none]
def wsX6_takesOut_r2 : List Cond := [Cond.methodLink RX6 90 yX6_nextOff, Cond.instanceMethod yX6_nextOff, Cond.selects RX6 yX6_nextOff yX6_nextOff, Cond.code yX6_nextOff cX6_nextOff 5 (some .int), Cond.methodLink RX6 84 yX6_routes, Cond.instanceMethod yX6_routes, Cond.selects RX6 yX6_routes yX6_routes, Cond.code yX6_routes cX6_routes 9 (some .int), Cond.fieldLink RX6 68 "ClosExchangeModel" "chained" "I", Cond.fieldLink RX6 16 "ClosExchangeModel" "chain" "[I", Cond.methodLink RX6 62 yX6_freeAhead, Cond.instanceMethod yX6_freeAhead, Cond.selects RX6 yX6_freeAhead yX6_freeAhead, Cond.code yX6_freeAhead cX6_freeAhead 5 (some .int), Cond.methodLink RX6 45 yX6_onFirst, Cond.instanceMethod yX6_onFirst, Cond.selects RX6 yX6_onFirst yX6_onFirst, Cond.code yX6_onFirst cX6_onFirst 5 (some .int), Cond.methodLink RX6 65 yX6_freeBehind, Cond.instanceMethod yX6_freeBehind, Cond.selects RX6 yX6_freeBehind yX6_freeBehind, Cond.code yX6_freeBehind cX6_freeBehind 5 (some .int), Cond.methodLink RX6 48 yX6_onLast, Cond.instanceMethod yX6_onLast]
def wsX6_takesOut_r3 : List Cond := [Cond.selects RX6 yX6_onLast yX6_onLast, Cond.code yX6_onLast cX6_onLast 5 (some .int), Cond.methodLink RX6 72 yX6_chosen, Cond.instanceMethod yX6_chosen, Cond.selects RX6 yX6_chosen yX6_chosen, Cond.code yX6_chosen cX6_chosen 7 (some .int), Cond.methodLink RX6 51 yX6_lowest, Cond.static yX6_lowest, Cond.code yX6_lowest cX6_lowest 2 (some .int), Cond.methodLink RX6 54 yX6_loadOf, Cond.instanceMethod yX6_loadOf, Cond.selects RX6 yX6_loadOf yX6_loadOf, Cond.code yX6_loadOf cX6_loadOf 5 (some .int), Cond.methodLink RX6 75 yX6_pairOf, Cond.instanceMethod yX6_pairOf, Cond.selects RX6 yX6_pairOf yX6_pairOf, Cond.code yX6_pairOf cX6_pairOf 10 (some .int), Cond.methodLink RX6 58 yX6_lays, Cond.instanceMethod yX6_lays, Cond.selects RX6 yX6_lays yX6_lays, Cond.code yX6_lays cX6_lays 8 (some .int)]
def wsX6_takesOut : List Cond := .code yX6_takesOut cX6_takesOut 5 (some .int) :: ((wsX6_takesOut_r1 ++ (wsX6_takesOut_r2 ++ wsX6_takesOut_r3)) ++ wsX60)
def wsX6_putsBack : List Cond := .code yX6_putsBack cX6_putsBack 3 (some .int) :: ([.fieldLink RX6 7 "ClosExchangeModel" "s" "[I", .methodLink RX6 87 yX6_isMiddle, .instanceMethod yX6_isMiddle, .selects RX6 yX6_isMiddle yX6_isMiddle, .initialized RX6, .code yX6_isMiddle cX6_isMiddle 3 (some .boolean), .methodLink RX6 34 yX6_in, .static yX6_in, .code yX6_in cX6_in 3 (some .boolean), .methodLink RX6 26 yX6_has, .static yX6_has, .code yX6_has cX6_has 2 (some .boolean), .methodLink RX6 93 yX6_bits, .static yX6_bits, .code yX6_bits cX6_bits 3 (some .int)] ++ wsX60)
def wsX6_least : List Cond := .code yX6_least cX6_least 8 (some .int) :: ([.fieldLink RX6 7 "ClosExchangeModel" "s" "[I", .methodLink RX6 30 yX6_lines, .instanceMethod yX6_lines, .selects RX6 yX6_lines yX6_lines, .initialized RX6, .code yX6_lines cX6_lines 2 (some .int), .methodLink RX6 41 yX6_of, .instanceMethod yX6_of, .selects RX6 yX6_of yX6_of, .code yX6_of cX6_of 4 (some .int)] ++ wsX60)
def wsX6_packs_r1 : List Cond := [Cond.fieldLink RX6 7 "ClosExchangeModel" "s" "[I", Cond.fieldLink RX6 19 "ClosExchangeModel" "before" "[I", Cond.methodLink RX6 96 yX6_calls, Cond.instanceMethod yX6_calls, Cond.selects RX6 yX6_calls yX6_calls, Cond.initialized RX6, Cond.code yX6_calls cX6_calls 4 (some .int), Cond.methodLink RX6 30 yX6_lines, Cond.instanceMethod yX6_lines, Cond.selects RX6 yX6_lines yX6_lines, Cond.code yX6_lines cX6_lines 2 (some .int), Cond.methodLink RX6 41 yX6_of, Cond.instanceMethod yX6_of, Cond.selects RX6 yX6_of yX6_of, Cond.code yX6_of cX6_of 4 (some .int), Cond.methodLink RX6 99 yX6_least, Cond.instanceMethod yX6_least, Cond.selects RX6 yX6_least yX6_least, Cond.code yX6_least cX6_least 8 (some .int), Cond.methodLink RX6 26 yX6_has, Cond.static yX6_has, Cond.code yX6_has cX6_has 2 (some .boolean), Cond.methodLink RX6 93 yX6_bits, Cond.static yX6_bits]
def wsX6_packs_r2 : List Cond := [Cond.code yX6_bits cX6_bits 3 (some .int), Cond.methodLink RX6 38 yX6_lay, Cond.instanceMethod yX6_lay, Cond.selects RX6 yX6_lay yX6_lay, Cond.code yX6_lay cX6_lay 5 none, Cond.methodLink RX6 90 yX6_nextOff, Cond.instanceMethod yX6_nextOff, Cond.selects RX6 yX6_nextOff yX6_nextOff, Cond.code yX6_nextOff cX6_nextOff 5 (some .int), Cond.methodLink RX6 84 yX6_routes, Cond.instanceMethod yX6_routes, Cond.selects RX6 yX6_routes yX6_routes, Cond.code yX6_routes cX6_routes 9 (some .int), Cond.fieldLink RX6 68 "ClosExchangeModel" "chained" "I", Cond.fieldLink RX6 16 "ClosExchangeModel" "chain" "[I", Cond.methodLink RX6 62 yX6_freeAhead, Cond.instanceMethod yX6_freeAhead, Cond.selects RX6 yX6_freeAhead yX6_freeAhead, Cond.code yX6_freeAhead cX6_freeAhead 5 (some .int), Cond.methodLink RX6 45 yX6_onFirst, Cond.instanceMethod yX6_onFirst, Cond.selects RX6 yX6_onFirst yX6_onFirst, Cond.code yX6_onFirst cX6_onFirst 5 (some .int), Cond.methodLink RX6 65 yX6_freeBehind]
def wsX6_packs_r3 : List Cond := [Cond.instanceMethod yX6_freeBehind, Cond.selects RX6 yX6_freeBehind yX6_freeBehind, Cond.code yX6_freeBehind cX6_freeBehind 5 (some .int), Cond.methodLink RX6 48 yX6_onLast, Cond.instanceMethod yX6_onLast, Cond.selects RX6 yX6_onLast yX6_onLast, Cond.code yX6_onLast cX6_onLast 5 (some .int), Cond.methodLink RX6 72 yX6_chosen, Cond.instanceMethod yX6_chosen, Cond.selects RX6 yX6_chosen yX6_chosen, Cond.code yX6_chosen cX6_chosen 7 (some .int), Cond.methodLink RX6 51 yX6_lowest, Cond.static yX6_lowest, Cond.code yX6_lowest cX6_lowest 2 (some .int), Cond.methodLink RX6 54 yX6_loadOf, Cond.instanceMethod yX6_loadOf, Cond.selects RX6 yX6_loadOf yX6_loadOf, Cond.code yX6_loadOf cX6_loadOf 5 (some .int), Cond.methodLink RX6 75 yX6_pairOf, Cond.instanceMethod yX6_pairOf, Cond.selects RX6 yX6_pairOf yX6_pairOf, Cond.code yX6_pairOf cX6_pairOf 10 (some .int), Cond.methodLink RX6 58 yX6_lays, Cond.instanceMethod yX6_lays]
def wsX6_packs_r4 : List Cond := [Cond.selects RX6 yX6_lays yX6_lays, Cond.code yX6_lays cX6_lays 8 (some .int)]
def wsX6_packs : List Cond := .code yX6_packs cX6_packs 8 (some .int) :: ((wsX6_packs_r1 ++ (wsX6_packs_r2 ++ (wsX6_packs_r3 ++ wsX6_packs_r4))) ++ wsX60)
def wsX6_copies : List Cond := .code yX6_copies cX6_copies 4 none :: ([.fieldLink RX6 7 "ClosExchangeModel" "s" "[I"] ++ wsX60)
def wsX6_accepts : List Cond := .code yX6_accepts cX6_accepts 3 (some .int) :: ([.fieldLink RX6 102 "ClosExchangeModel" "states" "I", .methodLink RX6 105 yX6_copies, .instanceMethod yX6_copies, .selects RX6 yX6_copies yX6_copies, .initialized RX6, .code yX6_copies cX6_copies 4 none, .fieldLink RX6 7 "ClosExchangeModel" "s" "[I"] ++ wsX60)
def wsX6_setUp_r1 : List Cond := [Cond.fieldLink RX6 7 "ClosExchangeModel" "s" "[I", Cond.methodLink RX6 34 yX6_in, Cond.static yX6_in, Cond.initialized RX6, Cond.code yX6_in cX6_in 3 (some .boolean), Cond.methodLink RX6 105 yX6_copies, Cond.instanceMethod yX6_copies, Cond.selects RX6 yX6_copies yX6_copies, Cond.code yX6_copies cX6_copies 4 none, Cond.methodLink RX6 96 yX6_calls, Cond.instanceMethod yX6_calls, Cond.selects RX6 yX6_calls yX6_calls, Cond.code yX6_calls cX6_calls 4 (some .int), Cond.methodLink RX6 30 yX6_lines, Cond.instanceMethod yX6_lines, Cond.selects RX6 yX6_lines yX6_lines, Cond.code yX6_lines cX6_lines 2 (some .int), Cond.methodLink RX6 41 yX6_of, Cond.instanceMethod yX6_of, Cond.selects RX6 yX6_of yX6_of, Cond.code yX6_of cX6_of 4 (some .int), Cond.methodLink RX6 22 yX6_builds, Cond.instanceMethod yX6_builds, Cond.selects RX6 yX6_builds yX6_builds]
def wsX6_setUp_r2 : List Cond := [Cond.code yX6_builds cX6_builds 6 none, Cond.methodLink RX6 38 yX6_lay, Cond.instanceMethod yX6_lay, Cond.selects RX6 yX6_lay yX6_lay, Cond.code yX6_lay cX6_lay 5 none, Cond.methodLink RX6 109 yX6_accepts, Cond.instanceMethod yX6_accepts, Cond.selects RX6 yX6_accepts yX6_accepts, Cond.code yX6_accepts cX6_accepts 3 (some .int), Cond.fieldLink RX6 102 "ClosExchangeModel" "states" "I"]
def wsX6_setUp : List Cond := .code yX6_setUp cX6_setUp 5 (some .int) :: ((wsX6_setUp_r1 ++ wsX6_setUp_r2) ++ wsX60)
def wsX6_rules : List Cond := .code yX6_rules cX6_rules 5 (some .int) :: ([.fieldLink RX6 7 "ClosExchangeModel" "s" "[I", .methodLink RX6 34 yX6_in, .static yX6_in, .initialized RX6, .code yX6_in cX6_in 3 (some .boolean), .methodLink RX6 105 yX6_copies, .instanceMethod yX6_copies, .selects RX6 yX6_copies yX6_copies, .code yX6_copies cX6_copies 4 none, .methodLink RX6 109 yX6_accepts, .instanceMethod yX6_accepts, .selects RX6 yX6_accepts yX6_accepts, .code yX6_accepts cX6_accepts 3 (some .int), .fieldLink RX6 102 "ClosExchangeModel" "states" "I"] ++ wsX60)
def wsX6_setChoiceRule : List Cond := .code yX6_setChoiceRule cX6_setChoiceRule 2 (some .int) :: ([.methodLink RX6 112 yX6_rules, .instanceMethod yX6_rules, .selects RX6 yX6_rules yX6_rules, .initialized RX6, .code yX6_rules cX6_rules 5 (some .int), .fieldLink RX6 7 "ClosExchangeModel" "s" "[I", .methodLink RX6 34 yX6_in, .static yX6_in, .code yX6_in cX6_in 3 (some .boolean), .methodLink RX6 105 yX6_copies, .instanceMethod yX6_copies, .selects RX6 yX6_copies yX6_copies, .code yX6_copies cX6_copies 4 none, .methodLink RX6 109 yX6_accepts, .instanceMethod yX6_accepts, .selects RX6 yX6_accepts yX6_accepts, .code yX6_accepts cX6_accepts 3 (some .int), .fieldLink RX6 102 "ClosExchangeModel" "states" "I"] ++ wsX60)
def wsX6_setPairRule : List Cond := .code yX6_setPairRule cX6_setPairRule 2 (some .int) :: ([.methodLink RX6 112 yX6_rules, .instanceMethod yX6_rules, .selects RX6 yX6_rules yX6_rules, .initialized RX6, .code yX6_rules cX6_rules 5 (some .int), .fieldLink RX6 7 "ClosExchangeModel" "s" "[I", .methodLink RX6 34 yX6_in, .static yX6_in, .code yX6_in cX6_in 3 (some .boolean), .methodLink RX6 105 yX6_copies, .instanceMethod yX6_copies, .selects RX6 yX6_copies yX6_copies, .code yX6_copies cX6_copies 4 none, .methodLink RX6 109 yX6_accepts, .instanceMethod yX6_accepts, .selects RX6 yX6_accepts yX6_accepts, .code yX6_accepts cX6_accepts 3 (some .int), .fieldLink RX6 102 "ClosExchangeModel" "states" "I"] ++ wsX60)
def wsX6_connect_r1 : List Cond := [Cond.methodLink RX6 105 yX6_copies, Cond.instanceMethod yX6_copies, Cond.selects RX6 yX6_copies yX6_copies, Cond.initialized RX6, Cond.code yX6_copies cX6_copies 4 none, Cond.fieldLink RX6 7 "ClosExchangeModel" "s" "[I", Cond.methodLink RX6 115 yX6_connects, Cond.instanceMethod yX6_connects, Cond.selects RX6 yX6_connects yX6_connects, Cond.code yX6_connects cX6_connects 4 (some .int), Cond.methodLink RX6 78 yX6_isLine, Cond.instanceMethod yX6_isLine, Cond.selects RX6 yX6_isLine yX6_isLine, Cond.code yX6_isLine cX6_isLine 3 (some .boolean), Cond.methodLink RX6 30 yX6_lines, Cond.instanceMethod yX6_lines, Cond.selects RX6 yX6_lines yX6_lines, Cond.code yX6_lines cX6_lines 2 (some .int), Cond.methodLink RX6 34 yX6_in, Cond.static yX6_in, Cond.code yX6_in cX6_in 3 (some .boolean), Cond.methodLink RX6 41 yX6_of, Cond.instanceMethod yX6_of, Cond.selects RX6 yX6_of yX6_of]
def wsX6_connect_r2 : List Cond := [Cond.code yX6_of cX6_of 4 (some .int), Cond.methodLink RX6 81 yX6_inletTo, Cond.instanceMethod yX6_inletTo, Cond.selects RX6 yX6_inletTo yX6_inletTo, Cond.code yX6_inletTo cX6_inletTo 4 (some .int), Cond.methodLink RX6 38 yX6_lay, Cond.instanceMethod yX6_lay, Cond.selects RX6 yX6_lay yX6_lay, Cond.code yX6_lay cX6_lay 5 none, Cond.methodLink RX6 84 yX6_routes, Cond.instanceMethod yX6_routes, Cond.selects RX6 yX6_routes yX6_routes, Cond.code yX6_routes cX6_routes 9 (some .int), Cond.fieldLink RX6 68 "ClosExchangeModel" "chained" "I", Cond.fieldLink RX6 16 "ClosExchangeModel" "chain" "[I", Cond.methodLink RX6 62 yX6_freeAhead, Cond.instanceMethod yX6_freeAhead, Cond.selects RX6 yX6_freeAhead yX6_freeAhead, Cond.code yX6_freeAhead cX6_freeAhead 5 (some .int), Cond.methodLink RX6 26 yX6_has, Cond.static yX6_has, Cond.code yX6_has cX6_has 2 (some .boolean), Cond.methodLink RX6 45 yX6_onFirst, Cond.instanceMethod yX6_onFirst]
def wsX6_connect_r3 : List Cond := [Cond.selects RX6 yX6_onFirst yX6_onFirst, Cond.code yX6_onFirst cX6_onFirst 5 (some .int), Cond.methodLink RX6 65 yX6_freeBehind, Cond.instanceMethod yX6_freeBehind, Cond.selects RX6 yX6_freeBehind yX6_freeBehind, Cond.code yX6_freeBehind cX6_freeBehind 5 (some .int), Cond.methodLink RX6 48 yX6_onLast, Cond.instanceMethod yX6_onLast, Cond.selects RX6 yX6_onLast yX6_onLast, Cond.code yX6_onLast cX6_onLast 5 (some .int), Cond.methodLink RX6 72 yX6_chosen, Cond.instanceMethod yX6_chosen, Cond.selects RX6 yX6_chosen yX6_chosen, Cond.code yX6_chosen cX6_chosen 7 (some .int), Cond.methodLink RX6 51 yX6_lowest, Cond.static yX6_lowest, Cond.code yX6_lowest cX6_lowest 2 (some .int), Cond.methodLink RX6 54 yX6_loadOf, Cond.instanceMethod yX6_loadOf, Cond.selects RX6 yX6_loadOf yX6_loadOf, Cond.code yX6_loadOf cX6_loadOf 5 (some .int), Cond.methodLink RX6 75 yX6_pairOf, Cond.instanceMethod yX6_pairOf, Cond.selects RX6 yX6_pairOf yX6_pairOf]
def wsX6_connect_r4 : List Cond := [Cond.code yX6_pairOf cX6_pairOf 10 (some .int), Cond.methodLink RX6 58 yX6_lays, Cond.instanceMethod yX6_lays, Cond.selects RX6 yX6_lays yX6_lays, Cond.code yX6_lays cX6_lays 8 (some .int), Cond.methodLink RX6 109 yX6_accepts, Cond.instanceMethod yX6_accepts, Cond.selects RX6 yX6_accepts yX6_accepts, Cond.code yX6_accepts cX6_accepts 3 (some .int), Cond.fieldLink RX6 102 "ClosExchangeModel" "states" "I"]
def wsX6_connect : List Cond := .code yX6_connect cX6_connect 3 (some .int) :: ((wsX6_connect_r1 ++ (wsX6_connect_r2 ++ (wsX6_connect_r3 ++ wsX6_connect_r4))) ++ wsX60)
def wsX6_disconnect_r1 : List Cond := [Cond.methodLink RX6 105 yX6_copies, Cond.instanceMethod yX6_copies, Cond.selects RX6 yX6_copies yX6_copies, Cond.initialized RX6, Cond.code yX6_copies cX6_copies 4 none, Cond.fieldLink RX6 7 "ClosExchangeModel" "s" "[I", Cond.methodLink RX6 118 yX6_disconnects, Cond.instanceMethod yX6_disconnects, Cond.selects RX6 yX6_disconnects yX6_disconnects, Cond.code yX6_disconnects cX6_disconnects 4 (some .int), Cond.methodLink RX6 78 yX6_isLine, Cond.instanceMethod yX6_isLine, Cond.selects RX6 yX6_isLine yX6_isLine, Cond.code yX6_isLine cX6_isLine 3 (some .boolean), Cond.methodLink RX6 30 yX6_lines, Cond.instanceMethod yX6_lines, Cond.selects RX6 yX6_lines yX6_lines, Cond.code yX6_lines cX6_lines 2 (some .int), Cond.methodLink RX6 34 yX6_in, Cond.static yX6_in, Cond.code yX6_in cX6_in 3 (some .boolean), Cond.methodLink RX6 41 yX6_of, Cond.instanceMethod yX6_of, Cond.selects RX6 yX6_of yX6_of]
def wsX6_disconnect_r2 : List Cond := [Cond.code yX6_of cX6_of 4 (some .int), Cond.methodLink RX6 38 yX6_lay, Cond.instanceMethod yX6_lay, Cond.selects RX6 yX6_lay yX6_lay, Cond.code yX6_lay cX6_lay 5 none, Cond.methodLink RX6 109 yX6_accepts, Cond.instanceMethod yX6_accepts, Cond.selects RX6 yX6_accepts yX6_accepts, Cond.code yX6_accepts cX6_accepts 3 (some .int), Cond.fieldLink RX6 102 "ClosExchangeModel" "states" "I"]
def wsX6_disconnect : List Cond := .code yX6_disconnect cX6_disconnect 2 (some .int) :: ((wsX6_disconnect_r1 ++ wsX6_disconnect_r2) ++ wsX60)
def wsX6_takeOut_r1 : List Cond := [Cond.methodLink RX6 105 yX6_copies, Cond.instanceMethod yX6_copies, Cond.selects RX6 yX6_copies yX6_copies, Cond.initialized RX6, Cond.code yX6_copies cX6_copies 4 none, Cond.fieldLink RX6 7 "ClosExchangeModel" "s" "[I", Cond.methodLink RX6 121 yX6_takesOut, Cond.instanceMethod yX6_takesOut, Cond.selects RX6 yX6_takesOut yX6_takesOut, Cond.code yX6_takesOut cX6_takesOut 5 (some .int), Cond.methodLink RX6 87 yX6_isMiddle, Cond.instanceMethod yX6_isMiddle, Cond.selects RX6 yX6_isMiddle yX6_isMiddle, Cond.code yX6_isMiddle cX6_isMiddle 3 (some .boolean), Cond.methodLink RX6 34 yX6_in, Cond.static yX6_in, Cond.code yX6_in cX6_in 3 (some .boolean), Cond.methodLink RX6 26 yX6_has, Cond.static yX6_has, Cond.code yX6_has cX6_has 2 (some .boolean), Cond.methodLink RX6 30 yX6_lines, Cond.instanceMethod yX6_lines, Cond.selects RX6 yX6_lines yX6_lines, Cond.code yX6_lines cX6_lines 2 (some .int)]
def wsX6_takeOut_r2 : List Cond := [Cond.methodLink RX6 41 yX6_of, Cond.instanceMethod yX6_of, Cond.selects RX6 yX6_of yX6_of, Cond.code yX6_of cX6_of 4 (some .int), Cond.methodLink RX6 38 yX6_lay, Cond.instanceMethod yX6_lay, Cond.selects RX6 yX6_lay yX6_lay, Cond.code yX6_lay cX6_lay 5 none, Cond.methodLink RX6 90 yX6_nextOff, Cond.instanceMethod yX6_nextOff, Cond.selects RX6 yX6_nextOff yX6_nextOff, Cond.code yX6_nextOff cX6_nextOff 5 (some .int), Cond.methodLink RX6 84 yX6_routes, Cond.instanceMethod yX6_routes, Cond.selects RX6 yX6_routes yX6_routes, Cond.code yX6_routes cX6_routes 9 (some .int), Cond.fieldLink RX6 68 "ClosExchangeModel" "chained" "I", Cond.fieldLink RX6 16 "ClosExchangeModel" "chain" "[I", Cond.methodLink RX6 62 yX6_freeAhead, Cond.instanceMethod yX6_freeAhead, Cond.selects RX6 yX6_freeAhead yX6_freeAhead, Cond.code yX6_freeAhead cX6_freeAhead 5 (some .int), Cond.methodLink RX6 45 yX6_onFirst, Cond.instanceMethod yX6_onFirst]
def wsX6_takeOut_r3 : List Cond := [Cond.selects RX6 yX6_onFirst yX6_onFirst, Cond.code yX6_onFirst cX6_onFirst 5 (some .int), Cond.methodLink RX6 65 yX6_freeBehind, Cond.instanceMethod yX6_freeBehind, Cond.selects RX6 yX6_freeBehind yX6_freeBehind, Cond.code yX6_freeBehind cX6_freeBehind 5 (some .int), Cond.methodLink RX6 48 yX6_onLast, Cond.instanceMethod yX6_onLast, Cond.selects RX6 yX6_onLast yX6_onLast, Cond.code yX6_onLast cX6_onLast 5 (some .int), Cond.methodLink RX6 72 yX6_chosen, Cond.instanceMethod yX6_chosen, Cond.selects RX6 yX6_chosen yX6_chosen, Cond.code yX6_chosen cX6_chosen 7 (some .int), Cond.methodLink RX6 51 yX6_lowest, Cond.static yX6_lowest, Cond.code yX6_lowest cX6_lowest 2 (some .int), Cond.methodLink RX6 54 yX6_loadOf, Cond.instanceMethod yX6_loadOf, Cond.selects RX6 yX6_loadOf yX6_loadOf, Cond.code yX6_loadOf cX6_loadOf 5 (some .int), Cond.methodLink RX6 75 yX6_pairOf, Cond.instanceMethod yX6_pairOf, Cond.selects RX6 yX6_pairOf yX6_pairOf]
def wsX6_takeOut_r4 : List Cond := [Cond.code yX6_pairOf cX6_pairOf 10 (some .int), Cond.methodLink RX6 58 yX6_lays, Cond.instanceMethod yX6_lays, Cond.selects RX6 yX6_lays yX6_lays, Cond.code yX6_lays cX6_lays 8 (some .int), Cond.methodLink RX6 109 yX6_accepts, Cond.instanceMethod yX6_accepts, Cond.selects RX6 yX6_accepts yX6_accepts, Cond.code yX6_accepts cX6_accepts 3 (some .int), Cond.fieldLink RX6 102 "ClosExchangeModel" "states" "I"]
def wsX6_takeOut : List Cond := .code yX6_takeOut cX6_takeOut 2 (some .int) :: ((wsX6_takeOut_r1 ++ (wsX6_takeOut_r2 ++ (wsX6_takeOut_r3 ++ wsX6_takeOut_r4))) ++ wsX60)
def wsX6_putBack_r1 : List Cond := [Cond.methodLink RX6 105 yX6_copies, Cond.instanceMethod yX6_copies, Cond.selects RX6 yX6_copies yX6_copies, Cond.initialized RX6, Cond.code yX6_copies cX6_copies 4 none, Cond.fieldLink RX6 7 "ClosExchangeModel" "s" "[I", Cond.methodLink RX6 124 yX6_putsBack, Cond.instanceMethod yX6_putsBack, Cond.selects RX6 yX6_putsBack yX6_putsBack, Cond.code yX6_putsBack cX6_putsBack 3 (some .int), Cond.methodLink RX6 87 yX6_isMiddle, Cond.instanceMethod yX6_isMiddle, Cond.selects RX6 yX6_isMiddle yX6_isMiddle, Cond.code yX6_isMiddle cX6_isMiddle 3 (some .boolean), Cond.methodLink RX6 34 yX6_in, Cond.static yX6_in, Cond.code yX6_in cX6_in 3 (some .boolean), Cond.methodLink RX6 26 yX6_has, Cond.static yX6_has, Cond.code yX6_has cX6_has 2 (some .boolean), Cond.methodLink RX6 93 yX6_bits, Cond.static yX6_bits, Cond.code yX6_bits cX6_bits 3 (some .int), Cond.methodLink RX6 109 yX6_accepts]
def wsX6_putBack_r2 : List Cond := [Cond.instanceMethod yX6_accepts, Cond.selects RX6 yX6_accepts yX6_accepts, Cond.code yX6_accepts cX6_accepts 3 (some .int), Cond.fieldLink RX6 102 "ClosExchangeModel" "states" "I"]
def wsX6_putBack : List Cond := .code yX6_putBack cX6_putBack 2 (some .int) :: ((wsX6_putBack_r1 ++ wsX6_putBack_r2) ++ wsX60)
def wsX6_pack_r1 : List Cond := [Cond.methodLink RX6 105 yX6_copies, Cond.instanceMethod yX6_copies, Cond.selects RX6 yX6_copies yX6_copies, Cond.initialized RX6, Cond.code yX6_copies cX6_copies 4 none, Cond.fieldLink RX6 7 "ClosExchangeModel" "s" "[I", Cond.methodLink RX6 127 yX6_packs, Cond.instanceMethod yX6_packs, Cond.selects RX6 yX6_packs yX6_packs, Cond.code yX6_packs cX6_packs 8 (some .int), Cond.fieldLink RX6 19 "ClosExchangeModel" "before" "[I", Cond.methodLink RX6 96 yX6_calls, Cond.instanceMethod yX6_calls, Cond.selects RX6 yX6_calls yX6_calls, Cond.code yX6_calls cX6_calls 4 (some .int), Cond.methodLink RX6 30 yX6_lines, Cond.instanceMethod yX6_lines, Cond.selects RX6 yX6_lines yX6_lines, Cond.code yX6_lines cX6_lines 2 (some .int), Cond.methodLink RX6 41 yX6_of, Cond.instanceMethod yX6_of, Cond.selects RX6 yX6_of yX6_of, Cond.code yX6_of cX6_of 4 (some .int), Cond.methodLink RX6 99 yX6_least]
def wsX6_pack_r2 : List Cond := [Cond.instanceMethod yX6_least, Cond.selects RX6 yX6_least yX6_least, Cond.code yX6_least cX6_least 8 (some .int), Cond.methodLink RX6 26 yX6_has, Cond.static yX6_has, Cond.code yX6_has cX6_has 2 (some .boolean), Cond.methodLink RX6 93 yX6_bits, Cond.static yX6_bits, Cond.code yX6_bits cX6_bits 3 (some .int), Cond.methodLink RX6 38 yX6_lay, Cond.instanceMethod yX6_lay, Cond.selects RX6 yX6_lay yX6_lay, Cond.code yX6_lay cX6_lay 5 none, Cond.methodLink RX6 90 yX6_nextOff, Cond.instanceMethod yX6_nextOff, Cond.selects RX6 yX6_nextOff yX6_nextOff, Cond.code yX6_nextOff cX6_nextOff 5 (some .int), Cond.methodLink RX6 84 yX6_routes, Cond.instanceMethod yX6_routes, Cond.selects RX6 yX6_routes yX6_routes, Cond.code yX6_routes cX6_routes 9 (some .int), Cond.fieldLink RX6 68 "ClosExchangeModel" "chained" "I", Cond.fieldLink RX6 16 "ClosExchangeModel" "chain" "[I", Cond.methodLink RX6 62 yX6_freeAhead]
def wsX6_pack_r3 : List Cond := [Cond.instanceMethod yX6_freeAhead, Cond.selects RX6 yX6_freeAhead yX6_freeAhead, Cond.code yX6_freeAhead cX6_freeAhead 5 (some .int), Cond.methodLink RX6 45 yX6_onFirst, Cond.instanceMethod yX6_onFirst, Cond.selects RX6 yX6_onFirst yX6_onFirst, Cond.code yX6_onFirst cX6_onFirst 5 (some .int), Cond.methodLink RX6 65 yX6_freeBehind, Cond.instanceMethod yX6_freeBehind, Cond.selects RX6 yX6_freeBehind yX6_freeBehind, Cond.code yX6_freeBehind cX6_freeBehind 5 (some .int), Cond.methodLink RX6 48 yX6_onLast, Cond.instanceMethod yX6_onLast, Cond.selects RX6 yX6_onLast yX6_onLast, Cond.code yX6_onLast cX6_onLast 5 (some .int), Cond.methodLink RX6 72 yX6_chosen, Cond.instanceMethod yX6_chosen, Cond.selects RX6 yX6_chosen yX6_chosen, Cond.code yX6_chosen cX6_chosen 7 (some .int), Cond.methodLink RX6 51 yX6_lowest, Cond.static yX6_lowest, Cond.code yX6_lowest cX6_lowest 2 (some .int), Cond.methodLink RX6 54 yX6_loadOf, Cond.instanceMethod yX6_loadOf]
def wsX6_pack_r4 : List Cond := [Cond.selects RX6 yX6_loadOf yX6_loadOf, Cond.code yX6_loadOf cX6_loadOf 5 (some .int), Cond.methodLink RX6 75 yX6_pairOf, Cond.instanceMethod yX6_pairOf, Cond.selects RX6 yX6_pairOf yX6_pairOf, Cond.code yX6_pairOf cX6_pairOf 10 (some .int), Cond.methodLink RX6 58 yX6_lays, Cond.instanceMethod yX6_lays, Cond.selects RX6 yX6_lays yX6_lays, Cond.code yX6_lays cX6_lays 8 (some .int), Cond.methodLink RX6 109 yX6_accepts, Cond.instanceMethod yX6_accepts, Cond.selects RX6 yX6_accepts yX6_accepts, Cond.code yX6_accepts cX6_accepts 3 (some .int), Cond.fieldLink RX6 102 "ClosExchangeModel" "states" "I"]
def wsX6_pack : List Cond := .code yX6_pack cX6_pack 1 (some .int) :: ((wsX6_pack_r1 ++ (wsX6_pack_r2 ++ (wsX6_pack_r3 ++ wsX6_pack_r4))) ++ wsX60)
def wsX6_type : List Cond := .code yX6_type cX6_type 2 (some .int) :: ([.fieldLink RX6 130 "ClosExchangeModel" "typed" "I", .fieldLink RX6 13 "ClosExchangeModel" "text" "[I"] ++ wsX60)
def wsX6_clearText : List Cond := .code yX6_clearText cX6_clearText 2 (some .int) :: ([.fieldLink RX6 130 "ClosExchangeModel" "typed" "I"] ++ wsX60)
def wsX6_isHere : List Cond := .code yX6_isHere cX6_isHere 3 (some .boolean) :: ([.fieldLink RX6 133 "ClosExchangeModel" "at" "I", .fieldLink RX6 130 "ClosExchangeModel" "typed" "I", .fieldLink RX6 13 "ClosExchangeModel" "text" "[I", .methodLink RX6 34 yX6_in, .static yX6_in, .initialized RX6, .code yX6_in cX6_in 3 (some .boolean)] ++ wsX60)
def wsX6_takes : List Cond := .code yX6_takes cX6_takes 3 (some .boolean) :: ([.fieldLink RX6 133 "ClosExchangeModel" "at" "I", .methodLink RX6 136 yX6_isHere, .instanceMethod yX6_isHere, .selects RX6 yX6_isHere yX6_isHere, .initialized RX6, .code yX6_isHere cX6_isHere 3 (some .boolean), .fieldLink RX6 130 "ClosExchangeModel" "typed" "I", .fieldLink RX6 13 "ClosExchangeModel" "text" "[I", .methodLink RX6 34 yX6_in, .static yX6_in, .code yX6_in cX6_in 3 (some .boolean)] ++ wsX60)
def wsX6_number : List Cond := .code yX6_number cX6_number 2 (some .int) :: ([.fieldLink RX6 13 "ClosExchangeModel" "text" "[I", .fieldLink RX6 133 "ClosExchangeModel" "at" "I", .methodLink RX6 136 yX6_isHere, .instanceMethod yX6_isHere, .selects RX6 yX6_isHere yX6_isHere, .initialized RX6, .code yX6_isHere cX6_isHere 3 (some .boolean), .fieldLink RX6 130 "ClosExchangeModel" "typed" "I", .methodLink RX6 34 yX6_in, .static yX6_in, .code yX6_in cX6_in 3 (some .boolean)] ++ wsX60)
def wsX6_digit : List Cond := .code yX6_digit cX6_digit 1 (some .int) :: ([.fieldLink RX6 133 "ClosExchangeModel" "at" "I", .fieldLink RX6 13 "ClosExchangeModel" "text" "[I", .methodLink RX6 136 yX6_isHere, .instanceMethod yX6_isHere, .selects RX6 yX6_isHere yX6_isHere, .initialized RX6, .code yX6_isHere cX6_isHere 3 (some .boolean), .fieldLink RX6 130 "ClosExchangeModel" "typed" "I", .methodLink RX6 34 yX6_in, .static yX6_in, .code yX6_in cX6_in 3 (some .boolean)] ++ wsX60)
def wsX6_reads_r1 : List Cond := [Cond.fieldLink RX6 143 "ClosExchangeModel" "order" "I", Cond.fieldLink RX6 150 "ClosExchangeModel" "first" "I", Cond.fieldLink RX6 153 "ClosExchangeModel" "second" "I", Cond.methodLink RX6 139 yX6_takes, Cond.instanceMethod yX6_takes, Cond.selects RX6 yX6_takes yX6_takes, Cond.initialized RX6, Cond.code yX6_takes cX6_takes 3 (some .boolean), Cond.fieldLink RX6 133 "ClosExchangeModel" "at" "I", Cond.methodLink RX6 136 yX6_isHere, Cond.instanceMethod yX6_isHere, Cond.selects RX6 yX6_isHere yX6_isHere, Cond.code yX6_isHere cX6_isHere 3 (some .boolean), Cond.fieldLink RX6 130 "ClosExchangeModel" "typed" "I", Cond.fieldLink RX6 13 "ClosExchangeModel" "text" "[I", Cond.methodLink RX6 34 yX6_in, Cond.static yX6_in, Cond.code yX6_in cX6_in 3 (some .boolean), Cond.methodLink RX6 146 yX6_number, Cond.instanceMethod yX6_number, Cond.selects RX6 yX6_number yX6_number, Cond.code yX6_number cX6_number 2 (some .int), Cond.methodLink RX6 156 yX6_digit, Cond.instanceMethod yX6_digit]
def wsX6_reads_r2 : List Cond := [Cond.selects RX6 yX6_digit yX6_digit, Cond.code yX6_digit cX6_digit 1 (some .int)]
def wsX6_reads : List Cond := .code yX6_reads cX6_reads 1 (some .boolean) :: ((wsX6_reads_r1 ++ wsX6_reads_r2) ++ wsX60)
def wsX6_fault_r1 : List Cond := [Cond.fieldLink RX6 133 "ClosExchangeModel" "at" "I", Cond.fieldLink RX6 130 "ClosExchangeModel" "typed" "I", Cond.methodLink RX6 159 yX6_reads, Cond.instanceMethod yX6_reads, Cond.selects RX6 yX6_reads yX6_reads, Cond.initialized RX6, Cond.code yX6_reads cX6_reads 1 (some .boolean), Cond.fieldLink RX6 143 "ClosExchangeModel" "order" "I", Cond.fieldLink RX6 150 "ClosExchangeModel" "first" "I", Cond.fieldLink RX6 153 "ClosExchangeModel" "second" "I", Cond.methodLink RX6 139 yX6_takes, Cond.instanceMethod yX6_takes, Cond.selects RX6 yX6_takes yX6_takes, Cond.code yX6_takes cX6_takes 3 (some .boolean), Cond.methodLink RX6 136 yX6_isHere, Cond.instanceMethod yX6_isHere, Cond.selects RX6 yX6_isHere yX6_isHere, Cond.code yX6_isHere cX6_isHere 3 (some .boolean), Cond.fieldLink RX6 13 "ClosExchangeModel" "text" "[I", Cond.methodLink RX6 34 yX6_in, Cond.static yX6_in, Cond.code yX6_in cX6_in 3 (some .boolean), Cond.methodLink RX6 146 yX6_number, Cond.instanceMethod yX6_number]
def wsX6_fault_r2 : List Cond := [Cond.selects RX6 yX6_number yX6_number, Cond.code yX6_number cX6_number 2 (some .int), Cond.methodLink RX6 156 yX6_digit, Cond.instanceMethod yX6_digit, Cond.selects RX6 yX6_digit yX6_digit, Cond.code yX6_digit cX6_digit 1 (some .int)]
def wsX6_fault : List Cond := .code yX6_fault cX6_fault 1 (some .int) :: ((wsX6_fault_r1 ++ wsX6_fault_r2) ++ wsX60)
def wsX6_carries_r1 : List Cond := [Cond.fieldLink RX6 143 "ClosExchangeModel" "order" "I", Cond.fieldLink RX6 150 "ClosExchangeModel" "first" "I", Cond.fieldLink RX6 153 "ClosExchangeModel" "second" "I", Cond.methodLink RX6 115 yX6_connects, Cond.instanceMethod yX6_connects, Cond.selects RX6 yX6_connects yX6_connects, Cond.initialized RX6, Cond.code yX6_connects cX6_connects 4 (some .int), Cond.fieldLink RX6 7 "ClosExchangeModel" "s" "[I", Cond.methodLink RX6 78 yX6_isLine, Cond.instanceMethod yX6_isLine, Cond.selects RX6 yX6_isLine yX6_isLine, Cond.code yX6_isLine cX6_isLine 3 (some .boolean), Cond.methodLink RX6 30 yX6_lines, Cond.instanceMethod yX6_lines, Cond.selects RX6 yX6_lines yX6_lines, Cond.code yX6_lines cX6_lines 2 (some .int), Cond.methodLink RX6 34 yX6_in, Cond.static yX6_in, Cond.code yX6_in cX6_in 3 (some .boolean), Cond.methodLink RX6 41 yX6_of, Cond.instanceMethod yX6_of, Cond.selects RX6 yX6_of yX6_of, Cond.code yX6_of cX6_of 4 (some .int)]
def wsX6_carries_r2 : List Cond := [Cond.methodLink RX6 81 yX6_inletTo, Cond.instanceMethod yX6_inletTo, Cond.selects RX6 yX6_inletTo yX6_inletTo, Cond.code yX6_inletTo cX6_inletTo 4 (some .int), Cond.methodLink RX6 38 yX6_lay, Cond.instanceMethod yX6_lay, Cond.selects RX6 yX6_lay yX6_lay, Cond.code yX6_lay cX6_lay 5 none, Cond.methodLink RX6 84 yX6_routes, Cond.instanceMethod yX6_routes, Cond.selects RX6 yX6_routes yX6_routes, Cond.code yX6_routes cX6_routes 9 (some .int), Cond.fieldLink RX6 68 "ClosExchangeModel" "chained" "I", Cond.fieldLink RX6 16 "ClosExchangeModel" "chain" "[I", Cond.methodLink RX6 62 yX6_freeAhead, Cond.instanceMethod yX6_freeAhead, Cond.selects RX6 yX6_freeAhead yX6_freeAhead, Cond.code yX6_freeAhead cX6_freeAhead 5 (some .int), Cond.methodLink RX6 26 yX6_has, Cond.static yX6_has, Cond.code yX6_has cX6_has 2 (some .boolean), Cond.methodLink RX6 45 yX6_onFirst, Cond.instanceMethod yX6_onFirst, Cond.selects RX6 yX6_onFirst yX6_onFirst]
def wsX6_carries_r3 : List Cond := [Cond.code yX6_onFirst cX6_onFirst 5 (some .int), Cond.methodLink RX6 65 yX6_freeBehind, Cond.instanceMethod yX6_freeBehind, Cond.selects RX6 yX6_freeBehind yX6_freeBehind, Cond.code yX6_freeBehind cX6_freeBehind 5 (some .int), Cond.methodLink RX6 48 yX6_onLast, Cond.instanceMethod yX6_onLast, Cond.selects RX6 yX6_onLast yX6_onLast, Cond.code yX6_onLast cX6_onLast 5 (some .int), Cond.methodLink RX6 72 yX6_chosen, Cond.instanceMethod yX6_chosen, Cond.selects RX6 yX6_chosen yX6_chosen, Cond.code yX6_chosen cX6_chosen 7 (some .int), Cond.methodLink RX6 51 yX6_lowest, Cond.static yX6_lowest, Cond.code yX6_lowest cX6_lowest 2 (some .int), Cond.methodLink RX6 54 yX6_loadOf, Cond.instanceMethod yX6_loadOf, Cond.selects RX6 yX6_loadOf yX6_loadOf, Cond.code yX6_loadOf cX6_loadOf 5 (some .int), Cond.methodLink RX6 75 yX6_pairOf, Cond.instanceMethod yX6_pairOf, Cond.selects RX6 yX6_pairOf yX6_pairOf, Cond.code yX6_pairOf cX6_pairOf 10 (some .int)]
def wsX6_carries_r4 : List Cond := [Cond.methodLink RX6 58 yX6_lays, Cond.instanceMethod yX6_lays, Cond.selects RX6 yX6_lays yX6_lays, Cond.code yX6_lays cX6_lays 8 (some .int), Cond.methodLink RX6 118 yX6_disconnects, Cond.instanceMethod yX6_disconnects, Cond.selects RX6 yX6_disconnects yX6_disconnects, Cond.code yX6_disconnects cX6_disconnects 4 (some .int), Cond.methodLink RX6 121 yX6_takesOut, Cond.instanceMethod yX6_takesOut, Cond.selects RX6 yX6_takesOut yX6_takesOut, Cond.code yX6_takesOut cX6_takesOut 5 (some .int), Cond.methodLink RX6 87 yX6_isMiddle, Cond.instanceMethod yX6_isMiddle, Cond.selects RX6 yX6_isMiddle yX6_isMiddle, Cond.code yX6_isMiddle cX6_isMiddle 3 (some .boolean), Cond.methodLink RX6 90 yX6_nextOff, Cond.instanceMethod yX6_nextOff, Cond.selects RX6 yX6_nextOff yX6_nextOff, Cond.code yX6_nextOff cX6_nextOff 5 (some .int), Cond.methodLink RX6 124 yX6_putsBack, Cond.instanceMethod yX6_putsBack, Cond.selects RX6 yX6_putsBack yX6_putsBack, Cond.code yX6_putsBack cX6_putsBack 3 (some .int)]
def wsX6_carries_r5 : List Cond := [Cond.methodLink RX6 93 yX6_bits, Cond.static yX6_bits, Cond.code yX6_bits cX6_bits 3 (some .int), Cond.methodLink RX6 127 yX6_packs, Cond.instanceMethod yX6_packs, Cond.selects RX6 yX6_packs yX6_packs, Cond.code yX6_packs cX6_packs 8 (some .int), Cond.fieldLink RX6 19 "ClosExchangeModel" "before" "[I", Cond.methodLink RX6 96 yX6_calls, Cond.instanceMethod yX6_calls, Cond.selects RX6 yX6_calls yX6_calls, Cond.code yX6_calls cX6_calls 4 (some .int), Cond.methodLink RX6 99 yX6_least, Cond.instanceMethod yX6_least, Cond.selects RX6 yX6_least yX6_least, Cond.code yX6_least cX6_least 8 (some .int)]
def wsX6_carries : List Cond := .code yX6_carries cX6_carries 1 (some .int) :: ((wsX6_carries_r1 ++ (wsX6_carries_r2 ++ (wsX6_carries_r3 ++ (wsX6_carries_r4 ++ wsX6_carries_r5)))) ++ wsX60)
def wsX6_perform_r1 : List Cond := [Cond.fieldLink RX6 133 "ClosExchangeModel" "at" "I", Cond.methodLink RX6 163 yX6_fault, Cond.instanceMethod yX6_fault, Cond.selects RX6 yX6_fault yX6_fault, Cond.initialized RX6, Cond.code yX6_fault cX6_fault 1 (some .int), Cond.fieldLink RX6 130 "ClosExchangeModel" "typed" "I", Cond.methodLink RX6 159 yX6_reads, Cond.instanceMethod yX6_reads, Cond.selects RX6 yX6_reads yX6_reads, Cond.code yX6_reads cX6_reads 1 (some .boolean), Cond.fieldLink RX6 143 "ClosExchangeModel" "order" "I", Cond.fieldLink RX6 150 "ClosExchangeModel" "first" "I", Cond.fieldLink RX6 153 "ClosExchangeModel" "second" "I", Cond.methodLink RX6 139 yX6_takes, Cond.instanceMethod yX6_takes, Cond.selects RX6 yX6_takes yX6_takes, Cond.code yX6_takes cX6_takes 3 (some .boolean), Cond.methodLink RX6 136 yX6_isHere, Cond.instanceMethod yX6_isHere, Cond.selects RX6 yX6_isHere yX6_isHere, Cond.code yX6_isHere cX6_isHere 3 (some .boolean), Cond.fieldLink RX6 13 "ClosExchangeModel" "text" "[I", Cond.methodLink RX6 34 yX6_in]
def wsX6_perform_r2 : List Cond := [Cond.static yX6_in, Cond.code yX6_in cX6_in 3 (some .boolean), Cond.methodLink RX6 146 yX6_number, Cond.instanceMethod yX6_number, Cond.selects RX6 yX6_number yX6_number, Cond.code yX6_number cX6_number 2 (some .int), Cond.methodLink RX6 156 yX6_digit, Cond.instanceMethod yX6_digit, Cond.selects RX6 yX6_digit yX6_digit, Cond.code yX6_digit cX6_digit 1 (some .int), Cond.methodLink RX6 105 yX6_copies, Cond.instanceMethod yX6_copies, Cond.selects RX6 yX6_copies yX6_copies, Cond.code yX6_copies cX6_copies 4 none, Cond.fieldLink RX6 7 "ClosExchangeModel" "s" "[I", Cond.methodLink RX6 166 yX6_carries, Cond.instanceMethod yX6_carries, Cond.selects RX6 yX6_carries yX6_carries, Cond.code yX6_carries cX6_carries 1 (some .int), Cond.methodLink RX6 115 yX6_connects, Cond.instanceMethod yX6_connects, Cond.selects RX6 yX6_connects yX6_connects, Cond.code yX6_connects cX6_connects 4 (some .int), Cond.methodLink RX6 78 yX6_isLine]
def wsX6_perform_r3 : List Cond := [Cond.instanceMethod yX6_isLine, Cond.selects RX6 yX6_isLine yX6_isLine, Cond.code yX6_isLine cX6_isLine 3 (some .boolean), Cond.methodLink RX6 30 yX6_lines, Cond.instanceMethod yX6_lines, Cond.selects RX6 yX6_lines yX6_lines, Cond.code yX6_lines cX6_lines 2 (some .int), Cond.methodLink RX6 41 yX6_of, Cond.instanceMethod yX6_of, Cond.selects RX6 yX6_of yX6_of, Cond.code yX6_of cX6_of 4 (some .int), Cond.methodLink RX6 81 yX6_inletTo, Cond.instanceMethod yX6_inletTo, Cond.selects RX6 yX6_inletTo yX6_inletTo, Cond.code yX6_inletTo cX6_inletTo 4 (some .int), Cond.methodLink RX6 38 yX6_lay, Cond.instanceMethod yX6_lay, Cond.selects RX6 yX6_lay yX6_lay, Cond.code yX6_lay cX6_lay 5 none, Cond.methodLink RX6 84 yX6_routes, Cond.instanceMethod yX6_routes, Cond.selects RX6 yX6_routes yX6_routes, Cond.code yX6_routes cX6_routes 9 (some .int), Cond.fieldLink RX6 68 "ClosExchangeModel" "chained" "I"]
def wsX6_perform_r4 : List Cond := [Cond.fieldLink RX6 16 "ClosExchangeModel" "chain" "[I", Cond.methodLink RX6 62 yX6_freeAhead, Cond.instanceMethod yX6_freeAhead, Cond.selects RX6 yX6_freeAhead yX6_freeAhead, Cond.code yX6_freeAhead cX6_freeAhead 5 (some .int), Cond.methodLink RX6 26 yX6_has, Cond.static yX6_has, Cond.code yX6_has cX6_has 2 (some .boolean), Cond.methodLink RX6 45 yX6_onFirst, Cond.instanceMethod yX6_onFirst, Cond.selects RX6 yX6_onFirst yX6_onFirst, Cond.code yX6_onFirst cX6_onFirst 5 (some .int), Cond.methodLink RX6 65 yX6_freeBehind, Cond.instanceMethod yX6_freeBehind, Cond.selects RX6 yX6_freeBehind yX6_freeBehind, Cond.code yX6_freeBehind cX6_freeBehind 5 (some .int), Cond.methodLink RX6 48 yX6_onLast, Cond.instanceMethod yX6_onLast, Cond.selects RX6 yX6_onLast yX6_onLast, Cond.code yX6_onLast cX6_onLast 5 (some .int), Cond.methodLink RX6 72 yX6_chosen, Cond.instanceMethod yX6_chosen, Cond.selects RX6 yX6_chosen yX6_chosen, Cond.code yX6_chosen cX6_chosen 7 (some .int)]
def wsX6_perform_r5 : List Cond := [Cond.methodLink RX6 51 yX6_lowest, Cond.static yX6_lowest, Cond.code yX6_lowest cX6_lowest 2 (some .int), Cond.methodLink RX6 54 yX6_loadOf, Cond.instanceMethod yX6_loadOf, Cond.selects RX6 yX6_loadOf yX6_loadOf, Cond.code yX6_loadOf cX6_loadOf 5 (some .int), Cond.methodLink RX6 75 yX6_pairOf, Cond.instanceMethod yX6_pairOf, Cond.selects RX6 yX6_pairOf yX6_pairOf, Cond.code yX6_pairOf cX6_pairOf 10 (some .int), Cond.methodLink RX6 58 yX6_lays, Cond.instanceMethod yX6_lays, Cond.selects RX6 yX6_lays yX6_lays, Cond.code yX6_lays cX6_lays 8 (some .int), Cond.methodLink RX6 118 yX6_disconnects, Cond.instanceMethod yX6_disconnects, Cond.selects RX6 yX6_disconnects yX6_disconnects, Cond.code yX6_disconnects cX6_disconnects 4 (some .int), Cond.methodLink RX6 121 yX6_takesOut, Cond.instanceMethod yX6_takesOut, Cond.selects RX6 yX6_takesOut yX6_takesOut, Cond.code yX6_takesOut cX6_takesOut 5 (some .int), Cond.methodLink RX6 87 yX6_isMiddle]
def wsX6_perform_r6 : List Cond := [Cond.instanceMethod yX6_isMiddle, Cond.selects RX6 yX6_isMiddle yX6_isMiddle, Cond.code yX6_isMiddle cX6_isMiddle 3 (some .boolean), Cond.methodLink RX6 90 yX6_nextOff, Cond.instanceMethod yX6_nextOff, Cond.selects RX6 yX6_nextOff yX6_nextOff, Cond.code yX6_nextOff cX6_nextOff 5 (some .int), Cond.methodLink RX6 124 yX6_putsBack, Cond.instanceMethod yX6_putsBack, Cond.selects RX6 yX6_putsBack yX6_putsBack, Cond.code yX6_putsBack cX6_putsBack 3 (some .int), Cond.methodLink RX6 93 yX6_bits, Cond.static yX6_bits, Cond.code yX6_bits cX6_bits 3 (some .int), Cond.methodLink RX6 127 yX6_packs, Cond.instanceMethod yX6_packs, Cond.selects RX6 yX6_packs yX6_packs, Cond.code yX6_packs cX6_packs 8 (some .int), Cond.fieldLink RX6 19 "ClosExchangeModel" "before" "[I", Cond.methodLink RX6 96 yX6_calls, Cond.instanceMethod yX6_calls, Cond.selects RX6 yX6_calls yX6_calls, Cond.code yX6_calls cX6_calls 4 (some .int), Cond.methodLink RX6 99 yX6_least]
def wsX6_perform_r7 : List Cond := [Cond.instanceMethod yX6_least, Cond.selects RX6 yX6_least yX6_least, Cond.code yX6_least cX6_least 8 (some .int), Cond.methodLink RX6 109 yX6_accepts, Cond.instanceMethod yX6_accepts, Cond.selects RX6 yX6_accepts yX6_accepts, Cond.code yX6_accepts cX6_accepts 3 (some .int), Cond.fieldLink RX6 102 "ClosExchangeModel" "states" "I"]
def wsX6_perform : List Cond := .code yX6_perform cX6_perform 5 (some .int) :: ((wsX6_perform_r1 ++ (wsX6_perform_r2 ++ (wsX6_perform_r3 ++ (wsX6_perform_r4 ++ (wsX6_perform_r5 ++ (wsX6_perform_r6 ++ wsX6_perform_r7)))))) ++ wsX60)
def wsX6_undo : List Cond := .code yX6_undo cX6_undo 1 (some .int) :: ([.fieldLink RX6 102 "ClosExchangeModel" "states" "I", .methodLink RX6 105 yX6_copies, .instanceMethod yX6_copies, .selects RX6 yX6_copies yX6_copies, .initialized RX6, .code yX6_copies cX6_copies 4 none, .fieldLink RX6 7 "ClosExchangeModel" "s" "[I"] ++ wsX60)
def wsX6_keep : List Cond := .code yX6_keep cX6_keep 1 (some .int) :: ([.fieldLink RX6 169 "ClosExchangeModel" "isKept" "Z", .methodLink RX6 105 yX6_copies, .instanceMethod yX6_copies, .selects RX6 yX6_copies yX6_copies, .initialized RX6, .code yX6_copies cX6_copies 4 none, .fieldLink RX6 7 "ClosExchangeModel" "s" "[I", .methodLink RX6 96 yX6_calls, .instanceMethod yX6_calls, .selects RX6 yX6_calls yX6_calls, .code yX6_calls cX6_calls 4 (some .int), .methodLink RX6 30 yX6_lines, .instanceMethod yX6_lines, .selects RX6 yX6_lines yX6_lines, .code yX6_lines cX6_lines 2 (some .int), .methodLink RX6 41 yX6_of, .instanceMethod yX6_of, .selects RX6 yX6_of yX6_of, .code yX6_of cX6_of 4 (some .int)] ++ wsX60)
def wsX6_restore : List Cond := .code yX6_restore cX6_restore 1 (some .int) :: ([.fieldLink RX6 169 "ClosExchangeModel" "isKept" "Z", .methodLink RX6 105 yX6_copies, .instanceMethod yX6_copies, .selects RX6 yX6_copies yX6_copies, .initialized RX6, .code yX6_copies cX6_copies 4 none, .fieldLink RX6 7 "ClosExchangeModel" "s" "[I", .methodLink RX6 96 yX6_calls, .instanceMethod yX6_calls, .selects RX6 yX6_calls yX6_calls, .code yX6_calls cX6_calls 4 (some .int), .methodLink RX6 30 yX6_lines, .instanceMethod yX6_lines, .selects RX6 yX6_lines yX6_lines, .code yX6_lines cX6_lines 2 (some .int), .methodLink RX6 41 yX6_of, .instanceMethod yX6_of, .selects RX6 yX6_of yX6_of, .code yX6_of cX6_of 4 (some .int), .methodLink RX6 109 yX6_accepts, .instanceMethod yX6_accepts, .selects RX6 yX6_accepts yX6_accepts, .code yX6_accepts cX6_accepts 3 (some .int), .fieldLink RX6 102 "ClosExchangeModel" "states" "I"] ++ wsX60)
def wsX6_callOfInlet : List Cond := .code yX6_callOfInlet cX6_callOfInlet 2 (some .int) :: ([.methodLink RX6 78 yX6_isLine, .instanceMethod yX6_isLine, .selects RX6 yX6_isLine yX6_isLine, .initialized RX6, .code yX6_isLine cX6_isLine 3 (some .boolean), .methodLink RX6 30 yX6_lines, .instanceMethod yX6_lines, .selects RX6 yX6_lines yX6_lines, .code yX6_lines cX6_lines 2 (some .int), .fieldLink RX6 7 "ClosExchangeModel" "s" "[I", .methodLink RX6 34 yX6_in, .static yX6_in, .code yX6_in cX6_in 3 (some .boolean), .methodLink RX6 41 yX6_of, .instanceMethod yX6_of, .selects RX6 yX6_of yX6_of, .code yX6_of cX6_of 4 (some .int)] ++ wsX60)
def wsX6_callOfOutlet : List Cond := .code yX6_callOfOutlet cX6_callOfOutlet 3 (some .int) :: ([.methodLink RX6 78 yX6_isLine, .instanceMethod yX6_isLine, .selects RX6 yX6_isLine yX6_isLine, .initialized RX6, .code yX6_isLine cX6_isLine 3 (some .boolean), .methodLink RX6 30 yX6_lines, .instanceMethod yX6_lines, .selects RX6 yX6_lines yX6_lines, .code yX6_lines cX6_lines 2 (some .int), .fieldLink RX6 7 "ClosExchangeModel" "s" "[I", .methodLink RX6 34 yX6_in, .static yX6_in, .code yX6_in cX6_in 3 (some .boolean), .methodLink RX6 81 yX6_inletTo, .instanceMethod yX6_inletTo, .selects RX6 yX6_inletTo yX6_inletTo, .code yX6_inletTo cX6_inletTo 4 (some .int), .methodLink RX6 41 yX6_of, .instanceMethod yX6_of, .selects RX6 yX6_of yX6_of, .code yX6_of cX6_of 4 (some .int)] ++ wsX60)
def wsX6_inletOf : List Cond := .code yX6_inletOf cX6_inletOf 3 (some .int) :: ([.methodLink RX6 30 yX6_lines, .instanceMethod yX6_lines, .selects RX6 yX6_lines yX6_lines, .initialized RX6, .code yX6_lines cX6_lines 2 (some .int), .fieldLink RX6 7 "ClosExchangeModel" "s" "[I", .methodLink RX6 41 yX6_of, .instanceMethod yX6_of, .selects RX6 yX6_of yX6_of, .code yX6_of cX6_of 4 (some .int)] ++ wsX60)
def wsX6_outletOf : List Cond := .code yX6_outletOf cX6_outletOf 3 (some .int) :: ([.methodLink RX6 173 yX6_inletOf, .instanceMethod yX6_inletOf, .selects RX6 yX6_inletOf yX6_inletOf, .initialized RX6, .code yX6_inletOf cX6_inletOf 3 (some .int), .methodLink RX6 30 yX6_lines, .instanceMethod yX6_lines, .selects RX6 yX6_lines yX6_lines, .code yX6_lines cX6_lines 2 (some .int), .fieldLink RX6 7 "ClosExchangeModel" "s" "[I", .methodLink RX6 41 yX6_of, .instanceMethod yX6_of, .selects RX6 yX6_of yX6_of, .code yX6_of cX6_of 4 (some .int)] ++ wsX60)
def wsX6_middleOf : List Cond := .code yX6_middleOf cX6_middleOf 3 (some .int) :: ([.methodLink RX6 173 yX6_inletOf, .instanceMethod yX6_inletOf, .selects RX6 yX6_inletOf yX6_inletOf, .initialized RX6, .code yX6_inletOf cX6_inletOf 3 (some .int), .methodLink RX6 30 yX6_lines, .instanceMethod yX6_lines, .selects RX6 yX6_lines yX6_lines, .code yX6_lines cX6_lines 2 (some .int), .fieldLink RX6 7 "ClosExchangeModel" "s" "[I", .methodLink RX6 41 yX6_of, .instanceMethod yX6_of, .selects RX6 yX6_of yX6_of, .code yX6_of cX6_of 4 (some .int)] ++ wsX60)
def wsX6_onFirstLink_r1 : List Cond := [Cond.methodLink RX6 176 yX6_isBoard, Cond.instanceMethod yX6_isBoard, Cond.selects RX6 yX6_isBoard yX6_isBoard, Cond.initialized RX6, Cond.code yX6_isBoard cX6_isBoard 2 (some .boolean), Cond.fieldLink RX6 7 "ClosExchangeModel" "s" "[I", Cond.methodLink RX6 34 yX6_in, Cond.static yX6_in, Cond.code yX6_in cX6_in 3 (some .boolean), Cond.methodLink RX6 87 yX6_isMiddle, Cond.instanceMethod yX6_isMiddle, Cond.selects RX6 yX6_isMiddle yX6_isMiddle, Cond.code yX6_isMiddle cX6_isMiddle 3 (some .boolean), Cond.methodLink RX6 45 yX6_onFirst, Cond.instanceMethod yX6_onFirst, Cond.selects RX6 yX6_onFirst yX6_onFirst, Cond.code yX6_onFirst cX6_onFirst 5 (some .int), Cond.methodLink RX6 30 yX6_lines, Cond.instanceMethod yX6_lines, Cond.selects RX6 yX6_lines yX6_lines, Cond.code yX6_lines cX6_lines 2 (some .int), Cond.methodLink RX6 41 yX6_of, Cond.instanceMethod yX6_of, Cond.selects RX6 yX6_of yX6_of]
def wsX6_onFirstLink_r2 : List Cond := [Cond.code yX6_of cX6_of 4 (some .int)]
def wsX6_onFirstLink : List Cond := .code yX6_onFirstLink cX6_onFirstLink 4 (some .int) :: ((wsX6_onFirstLink_r1 ++ wsX6_onFirstLink_r2) ++ wsX60)
def wsX6_onLastLink_r1 : List Cond := [Cond.methodLink RX6 176 yX6_isBoard, Cond.instanceMethod yX6_isBoard, Cond.selects RX6 yX6_isBoard yX6_isBoard, Cond.initialized RX6, Cond.code yX6_isBoard cX6_isBoard 2 (some .boolean), Cond.fieldLink RX6 7 "ClosExchangeModel" "s" "[I", Cond.methodLink RX6 34 yX6_in, Cond.static yX6_in, Cond.code yX6_in cX6_in 3 (some .boolean), Cond.methodLink RX6 87 yX6_isMiddle, Cond.instanceMethod yX6_isMiddle, Cond.selects RX6 yX6_isMiddle yX6_isMiddle, Cond.code yX6_isMiddle cX6_isMiddle 3 (some .boolean), Cond.methodLink RX6 48 yX6_onLast, Cond.instanceMethod yX6_onLast, Cond.selects RX6 yX6_onLast yX6_onLast, Cond.code yX6_onLast cX6_onLast 5 (some .int), Cond.methodLink RX6 30 yX6_lines, Cond.instanceMethod yX6_lines, Cond.selects RX6 yX6_lines yX6_lines, Cond.code yX6_lines cX6_lines 2 (some .int), Cond.methodLink RX6 41 yX6_of, Cond.instanceMethod yX6_of, Cond.selects RX6 yX6_of yX6_of]
def wsX6_onLastLink_r2 : List Cond := [Cond.code yX6_of cX6_of 4 (some .int)]
def wsX6_onLastLink : List Cond := .code yX6_onLastLink cX6_onLastLink 4 (some .int) :: ((wsX6_onLastLink_r1 ++ wsX6_onLastLink_r2) ++ wsX60)
def wsX6_load : List Cond := .code yX6_load cX6_load 2 (some .int) :: ([.methodLink RX6 87 yX6_isMiddle, .instanceMethod yX6_isMiddle, .selects RX6 yX6_isMiddle yX6_isMiddle, .initialized RX6, .code yX6_isMiddle cX6_isMiddle 3 (some .boolean), .fieldLink RX6 7 "ClosExchangeModel" "s" "[I", .methodLink RX6 34 yX6_in, .static yX6_in, .code yX6_in cX6_in 3 (some .boolean), .methodLink RX6 54 yX6_loadOf, .instanceMethod yX6_loadOf, .selects RX6 yX6_loadOf yX6_loadOf, .code yX6_loadOf cX6_loadOf 5 (some .int), .methodLink RX6 30 yX6_lines, .instanceMethod yX6_lines, .selects RX6 yX6_lines yX6_lines, .code yX6_lines cX6_lines 2 (some .int), .methodLink RX6 41 yX6_of, .instanceMethod yX6_of, .selects RX6 yX6_of yX6_of, .code yX6_of cX6_of 4 (some .int)] ++ wsX60)
def wsX6_freeForFirst_r1 : List Cond := [Cond.methodLink RX6 176 yX6_isBoard, Cond.instanceMethod yX6_isBoard, Cond.selects RX6 yX6_isBoard yX6_isBoard, Cond.initialized RX6, Cond.code yX6_isBoard cX6_isBoard 2 (some .boolean), Cond.fieldLink RX6 7 "ClosExchangeModel" "s" "[I", Cond.methodLink RX6 34 yX6_in, Cond.static yX6_in, Cond.code yX6_in cX6_in 3 (some .boolean), Cond.methodLink RX6 62 yX6_freeAhead, Cond.instanceMethod yX6_freeAhead, Cond.selects RX6 yX6_freeAhead yX6_freeAhead, Cond.code yX6_freeAhead cX6_freeAhead 5 (some .int), Cond.methodLink RX6 26 yX6_has, Cond.static yX6_has, Cond.code yX6_has cX6_has 2 (some .boolean), Cond.methodLink RX6 45 yX6_onFirst, Cond.instanceMethod yX6_onFirst, Cond.selects RX6 yX6_onFirst yX6_onFirst, Cond.code yX6_onFirst cX6_onFirst 5 (some .int), Cond.methodLink RX6 30 yX6_lines, Cond.instanceMethod yX6_lines, Cond.selects RX6 yX6_lines yX6_lines, Cond.code yX6_lines cX6_lines 2 (some .int)]
def wsX6_freeForFirst_r2 : List Cond := [Cond.methodLink RX6 41 yX6_of, Cond.instanceMethod yX6_of, Cond.selects RX6 yX6_of yX6_of, Cond.code yX6_of cX6_of 4 (some .int)]
def wsX6_freeForFirst : List Cond := .code yX6_freeForFirst cX6_freeForFirst 2 (some .int) :: ((wsX6_freeForFirst_r1 ++ wsX6_freeForFirst_r2) ++ wsX60)
def wsX6_freeForLast_r1 : List Cond := [Cond.methodLink RX6 176 yX6_isBoard, Cond.instanceMethod yX6_isBoard, Cond.selects RX6 yX6_isBoard yX6_isBoard, Cond.initialized RX6, Cond.code yX6_isBoard cX6_isBoard 2 (some .boolean), Cond.fieldLink RX6 7 "ClosExchangeModel" "s" "[I", Cond.methodLink RX6 34 yX6_in, Cond.static yX6_in, Cond.code yX6_in cX6_in 3 (some .boolean), Cond.methodLink RX6 65 yX6_freeBehind, Cond.instanceMethod yX6_freeBehind, Cond.selects RX6 yX6_freeBehind yX6_freeBehind, Cond.code yX6_freeBehind cX6_freeBehind 5 (some .int), Cond.methodLink RX6 26 yX6_has, Cond.static yX6_has, Cond.code yX6_has cX6_has 2 (some .boolean), Cond.methodLink RX6 48 yX6_onLast, Cond.instanceMethod yX6_onLast, Cond.selects RX6 yX6_onLast yX6_onLast, Cond.code yX6_onLast cX6_onLast 5 (some .int), Cond.methodLink RX6 30 yX6_lines, Cond.instanceMethod yX6_lines, Cond.selects RX6 yX6_lines yX6_lines, Cond.code yX6_lines cX6_lines 2 (some .int)]
def wsX6_freeForLast_r2 : List Cond := [Cond.methodLink RX6 41 yX6_of, Cond.instanceMethod yX6_of, Cond.selects RX6 yX6_of yX6_of, Cond.code yX6_of cX6_of 4 (some .int)]
def wsX6_freeForLast : List Cond := .code yX6_freeForLast cX6_freeForLast 2 (some .int) :: ((wsX6_freeForLast_r1 ++ wsX6_freeForLast_r2) ++ wsX60)
def wsX6_inService : List Cond := .code yX6_inService cX6_inService 1 (some .int) :: ([.fieldLink RX6 7 "ClosExchangeModel" "s" "[I"] ++ wsX60)
def wsX6_total : List Cond := .code yX6_total cX6_total 2 (some .int) :: ([.fieldLink RX6 7 "ClosExchangeModel" "s" "[I", .fieldLink RX6 102 "ClosExchangeModel" "states" "I", .fieldLink RX6 130 "ClosExchangeModel" "typed" "I", .methodLink RX6 96 yX6_calls, .instanceMethod yX6_calls, .selects RX6 yX6_calls yX6_calls, .initialized RX6, .code yX6_calls cX6_calls 4 (some .int), .methodLink RX6 30 yX6_lines, .instanceMethod yX6_lines, .selects RX6 yX6_lines yX6_lines, .code yX6_lines cX6_lines 2 (some .int), .methodLink RX6 41 yX6_of, .instanceMethod yX6_of, .selects RX6 yX6_of yX6_of, .code yX6_of cX6_of 4 (some .int)] ++ wsX60)
def wsX6_wouldMove_r1 : List Cond := [Cond.fieldLink RX6 68 "ClosExchangeModel" "chained" "I", Cond.methodLink RX6 105 yX6_copies, Cond.instanceMethod yX6_copies, Cond.selects RX6 yX6_copies yX6_copies, Cond.initialized RX6, Cond.code yX6_copies cX6_copies 4 none, Cond.fieldLink RX6 7 "ClosExchangeModel" "s" "[I", Cond.methodLink RX6 115 yX6_connects, Cond.instanceMethod yX6_connects, Cond.selects RX6 yX6_connects yX6_connects, Cond.code yX6_connects cX6_connects 4 (some .int), Cond.methodLink RX6 78 yX6_isLine, Cond.instanceMethod yX6_isLine, Cond.selects RX6 yX6_isLine yX6_isLine, Cond.code yX6_isLine cX6_isLine 3 (some .boolean), Cond.methodLink RX6 30 yX6_lines, Cond.instanceMethod yX6_lines, Cond.selects RX6 yX6_lines yX6_lines, Cond.code yX6_lines cX6_lines 2 (some .int), Cond.methodLink RX6 34 yX6_in, Cond.static yX6_in, Cond.code yX6_in cX6_in 3 (some .boolean), Cond.methodLink RX6 41 yX6_of, Cond.instanceMethod yX6_of]
def wsX6_wouldMove_r2 : List Cond := [Cond.selects RX6 yX6_of yX6_of, Cond.code yX6_of cX6_of 4 (some .int), Cond.methodLink RX6 81 yX6_inletTo, Cond.instanceMethod yX6_inletTo, Cond.selects RX6 yX6_inletTo yX6_inletTo, Cond.code yX6_inletTo cX6_inletTo 4 (some .int), Cond.methodLink RX6 38 yX6_lay, Cond.instanceMethod yX6_lay, Cond.selects RX6 yX6_lay yX6_lay, Cond.code yX6_lay cX6_lay 5 none, Cond.methodLink RX6 84 yX6_routes, Cond.instanceMethod yX6_routes, Cond.selects RX6 yX6_routes yX6_routes, Cond.code yX6_routes cX6_routes 9 (some .int), Cond.fieldLink RX6 16 "ClosExchangeModel" "chain" "[I", Cond.methodLink RX6 62 yX6_freeAhead, Cond.instanceMethod yX6_freeAhead, Cond.selects RX6 yX6_freeAhead yX6_freeAhead, Cond.code yX6_freeAhead cX6_freeAhead 5 (some .int), Cond.methodLink RX6 26 yX6_has, Cond.static yX6_has, Cond.code yX6_has cX6_has 2 (some .boolean), Cond.methodLink RX6 45 yX6_onFirst, Cond.instanceMethod yX6_onFirst]
def wsX6_wouldMove_r3 : List Cond := [Cond.selects RX6 yX6_onFirst yX6_onFirst, Cond.code yX6_onFirst cX6_onFirst 5 (some .int), Cond.methodLink RX6 65 yX6_freeBehind, Cond.instanceMethod yX6_freeBehind, Cond.selects RX6 yX6_freeBehind yX6_freeBehind, Cond.code yX6_freeBehind cX6_freeBehind 5 (some .int), Cond.methodLink RX6 48 yX6_onLast, Cond.instanceMethod yX6_onLast, Cond.selects RX6 yX6_onLast yX6_onLast, Cond.code yX6_onLast cX6_onLast 5 (some .int), Cond.methodLink RX6 72 yX6_chosen, Cond.instanceMethod yX6_chosen, Cond.selects RX6 yX6_chosen yX6_chosen, Cond.code yX6_chosen cX6_chosen 7 (some .int), Cond.methodLink RX6 51 yX6_lowest, Cond.static yX6_lowest, Cond.code yX6_lowest cX6_lowest 2 (some .int), Cond.methodLink RX6 54 yX6_loadOf, Cond.instanceMethod yX6_loadOf, Cond.selects RX6 yX6_loadOf yX6_loadOf, Cond.code yX6_loadOf cX6_loadOf 5 (some .int), Cond.methodLink RX6 75 yX6_pairOf, Cond.instanceMethod yX6_pairOf, Cond.selects RX6 yX6_pairOf yX6_pairOf]
def wsX6_wouldMove_r4 : List Cond := [Cond.code yX6_pairOf cX6_pairOf 10 (some .int), Cond.methodLink RX6 58 yX6_lays, Cond.instanceMethod yX6_lays, Cond.selects RX6 yX6_lays yX6_lays, Cond.code yX6_lays cX6_lays 8 (some .int)]
def wsX6_wouldMove : List Cond := .code yX6_wouldMove cX6_wouldMove 4 (some .int) :: ((wsX6_wouldMove_r1 ++ (wsX6_wouldMove_r2 ++ (wsX6_wouldMove_r3 ++ wsX6_wouldMove_r4))) ++ wsX60)
def wsX6_chainCall_r1 : List Cond := [Cond.fieldLink RX6 68 "ClosExchangeModel" "chained" "I", Cond.fieldLink RX6 16 "ClosExchangeModel" "chain" "[I", Cond.methodLink RX6 105 yX6_copies, Cond.instanceMethod yX6_copies, Cond.selects RX6 yX6_copies yX6_copies, Cond.initialized RX6, Cond.code yX6_copies cX6_copies 4 none, Cond.fieldLink RX6 7 "ClosExchangeModel" "s" "[I", Cond.methodLink RX6 115 yX6_connects, Cond.instanceMethod yX6_connects, Cond.selects RX6 yX6_connects yX6_connects, Cond.code yX6_connects cX6_connects 4 (some .int), Cond.methodLink RX6 78 yX6_isLine, Cond.instanceMethod yX6_isLine, Cond.selects RX6 yX6_isLine yX6_isLine, Cond.code yX6_isLine cX6_isLine 3 (some .boolean), Cond.methodLink RX6 30 yX6_lines, Cond.instanceMethod yX6_lines, Cond.selects RX6 yX6_lines yX6_lines, Cond.code yX6_lines cX6_lines 2 (some .int), Cond.methodLink RX6 34 yX6_in, Cond.static yX6_in, Cond.code yX6_in cX6_in 3 (some .boolean), Cond.methodLink RX6 41 yX6_of]
def wsX6_chainCall_r2 : List Cond := [Cond.instanceMethod yX6_of, Cond.selects RX6 yX6_of yX6_of, Cond.code yX6_of cX6_of 4 (some .int), Cond.methodLink RX6 81 yX6_inletTo, Cond.instanceMethod yX6_inletTo, Cond.selects RX6 yX6_inletTo yX6_inletTo, Cond.code yX6_inletTo cX6_inletTo 4 (some .int), Cond.methodLink RX6 38 yX6_lay, Cond.instanceMethod yX6_lay, Cond.selects RX6 yX6_lay yX6_lay, Cond.code yX6_lay cX6_lay 5 none, Cond.methodLink RX6 84 yX6_routes, Cond.instanceMethod yX6_routes, Cond.selects RX6 yX6_routes yX6_routes, Cond.code yX6_routes cX6_routes 9 (some .int), Cond.methodLink RX6 62 yX6_freeAhead, Cond.instanceMethod yX6_freeAhead, Cond.selects RX6 yX6_freeAhead yX6_freeAhead, Cond.code yX6_freeAhead cX6_freeAhead 5 (some .int), Cond.methodLink RX6 26 yX6_has, Cond.static yX6_has, Cond.code yX6_has cX6_has 2 (some .boolean), Cond.methodLink RX6 45 yX6_onFirst, Cond.instanceMethod yX6_onFirst]
def wsX6_chainCall_r3 : List Cond := [Cond.selects RX6 yX6_onFirst yX6_onFirst, Cond.code yX6_onFirst cX6_onFirst 5 (some .int), Cond.methodLink RX6 65 yX6_freeBehind, Cond.instanceMethod yX6_freeBehind, Cond.selects RX6 yX6_freeBehind yX6_freeBehind, Cond.code yX6_freeBehind cX6_freeBehind 5 (some .int), Cond.methodLink RX6 48 yX6_onLast, Cond.instanceMethod yX6_onLast, Cond.selects RX6 yX6_onLast yX6_onLast, Cond.code yX6_onLast cX6_onLast 5 (some .int), Cond.methodLink RX6 72 yX6_chosen, Cond.instanceMethod yX6_chosen, Cond.selects RX6 yX6_chosen yX6_chosen, Cond.code yX6_chosen cX6_chosen 7 (some .int), Cond.methodLink RX6 51 yX6_lowest, Cond.static yX6_lowest, Cond.code yX6_lowest cX6_lowest 2 (some .int), Cond.methodLink RX6 54 yX6_loadOf, Cond.instanceMethod yX6_loadOf, Cond.selects RX6 yX6_loadOf yX6_loadOf, Cond.code yX6_loadOf cX6_loadOf 5 (some .int), Cond.methodLink RX6 75 yX6_pairOf, Cond.instanceMethod yX6_pairOf, Cond.selects RX6 yX6_pairOf yX6_pairOf]
def wsX6_chainCall_r4 : List Cond := [Cond.code yX6_pairOf cX6_pairOf 10 (some .int), Cond.methodLink RX6 58 yX6_lays, Cond.instanceMethod yX6_lays, Cond.selects RX6 yX6_lays yX6_lays, Cond.code yX6_lays cX6_lays 8 (some .int)]
def wsX6_chainCall : List Cond := .code yX6_chainCall cX6_chainCall 5 (some .int) :: ((wsX6_chainCall_r1 ++ (wsX6_chainCall_r2 ++ (wsX6_chainCall_r3 ++ wsX6_chainCall_r4))) ++ wsX60)
def wsX6_reason_r1 : List Cond := [Cond.fieldLink RX6 7 "ClosExchangeModel" "s" "[I", Cond.methodLink RX6 78 yX6_isLine, Cond.instanceMethod yX6_isLine, Cond.selects RX6 yX6_isLine yX6_isLine, Cond.initialized RX6, Cond.code yX6_isLine cX6_isLine 3 (some .boolean), Cond.methodLink RX6 30 yX6_lines, Cond.instanceMethod yX6_lines, Cond.selects RX6 yX6_lines yX6_lines, Cond.code yX6_lines cX6_lines 2 (some .int), Cond.methodLink RX6 34 yX6_in, Cond.static yX6_in, Cond.code yX6_in cX6_in 3 (some .boolean), Cond.methodLink RX6 41 yX6_of, Cond.instanceMethod yX6_of, Cond.selects RX6 yX6_of yX6_of, Cond.code yX6_of cX6_of 4 (some .int), Cond.methodLink RX6 81 yX6_inletTo, Cond.instanceMethod yX6_inletTo, Cond.selects RX6 yX6_inletTo yX6_inletTo, Cond.code yX6_inletTo cX6_inletTo 4 (some .int), Cond.methodLink RX6 62 yX6_freeAhead, Cond.instanceMethod yX6_freeAhead, Cond.selects RX6 yX6_freeAhead yX6_freeAhead]
def wsX6_reason_r2 : List Cond := [Cond.code yX6_freeAhead cX6_freeAhead 5 (some .int), Cond.methodLink RX6 26 yX6_has, Cond.static yX6_has, Cond.code yX6_has cX6_has 2 (some .boolean), Cond.methodLink RX6 45 yX6_onFirst, Cond.instanceMethod yX6_onFirst, Cond.selects RX6 yX6_onFirst yX6_onFirst, Cond.code yX6_onFirst cX6_onFirst 5 (some .int), Cond.methodLink RX6 65 yX6_freeBehind, Cond.instanceMethod yX6_freeBehind, Cond.selects RX6 yX6_freeBehind yX6_freeBehind, Cond.code yX6_freeBehind cX6_freeBehind 5 (some .int), Cond.methodLink RX6 48 yX6_onLast, Cond.instanceMethod yX6_onLast, Cond.selects RX6 yX6_onLast yX6_onLast, Cond.code yX6_onLast cX6_onLast 5 (some .int)]
def wsX6_reason : List Cond := .code yX6_reason cX6_reason 5 (some .int) :: ((wsX6_reason_r1 ++ wsX6_reason_r2) ++ wsX60)
def wsX6_leastMiddles : List Cond := .code yX6_leastMiddles cX6_leastMiddles 1 (some .int) :: ([.methodLink RX6 99 yX6_least, .instanceMethod yX6_least, .selects RX6 yX6_least yX6_least, .initialized RX6, .code yX6_least cX6_least 8 (some .int), .fieldLink RX6 7 "ClosExchangeModel" "s" "[I", .methodLink RX6 30 yX6_lines, .instanceMethod yX6_lines, .selects RX6 yX6_lines yX6_lines, .code yX6_lines cX6_lines 2 (some .int), .methodLink RX6 41 yX6_of, .instanceMethod yX6_of, .selects RX6 yX6_of yX6_of, .code yX6_of cX6_of 4 (some .int)] ++ wsX60)
def wsX6_wouldDrop_r1 : List Cond := [Cond.methodLink RX6 105 yX6_copies, Cond.instanceMethod yX6_copies, Cond.selects RX6 yX6_copies yX6_copies, Cond.initialized RX6, Cond.code yX6_copies cX6_copies 4 none, Cond.fieldLink RX6 7 "ClosExchangeModel" "s" "[I", Cond.methodLink RX6 121 yX6_takesOut, Cond.instanceMethod yX6_takesOut, Cond.selects RX6 yX6_takesOut yX6_takesOut, Cond.code yX6_takesOut cX6_takesOut 5 (some .int), Cond.methodLink RX6 87 yX6_isMiddle, Cond.instanceMethod yX6_isMiddle, Cond.selects RX6 yX6_isMiddle yX6_isMiddle, Cond.code yX6_isMiddle cX6_isMiddle 3 (some .boolean), Cond.methodLink RX6 34 yX6_in, Cond.static yX6_in, Cond.code yX6_in cX6_in 3 (some .boolean), Cond.methodLink RX6 26 yX6_has, Cond.static yX6_has, Cond.code yX6_has cX6_has 2 (some .boolean), Cond.methodLink RX6 30 yX6_lines, Cond.instanceMethod yX6_lines, Cond.selects RX6 yX6_lines yX6_lines, Cond.code yX6_lines cX6_lines 2 (some .int)]
def wsX6_wouldDrop_r2 : List Cond := [Cond.methodLink RX6 41 yX6_of, Cond.instanceMethod yX6_of, Cond.selects RX6 yX6_of yX6_of, Cond.code yX6_of cX6_of 4 (some .int), Cond.methodLink RX6 38 yX6_lay, Cond.instanceMethod yX6_lay, Cond.selects RX6 yX6_lay yX6_lay, Cond.code yX6_lay cX6_lay 5 none, Cond.methodLink RX6 90 yX6_nextOff, Cond.instanceMethod yX6_nextOff, Cond.selects RX6 yX6_nextOff yX6_nextOff, Cond.code yX6_nextOff cX6_nextOff 5 (some .int), Cond.methodLink RX6 84 yX6_routes, Cond.instanceMethod yX6_routes, Cond.selects RX6 yX6_routes yX6_routes, Cond.code yX6_routes cX6_routes 9 (some .int), Cond.fieldLink RX6 68 "ClosExchangeModel" "chained" "I", Cond.fieldLink RX6 16 "ClosExchangeModel" "chain" "[I", Cond.methodLink RX6 62 yX6_freeAhead, Cond.instanceMethod yX6_freeAhead, Cond.selects RX6 yX6_freeAhead yX6_freeAhead, Cond.code yX6_freeAhead cX6_freeAhead 5 (some .int), Cond.methodLink RX6 45 yX6_onFirst, Cond.instanceMethod yX6_onFirst]
def wsX6_wouldDrop_r3 : List Cond := [Cond.selects RX6 yX6_onFirst yX6_onFirst, Cond.code yX6_onFirst cX6_onFirst 5 (some .int), Cond.methodLink RX6 65 yX6_freeBehind, Cond.instanceMethod yX6_freeBehind, Cond.selects RX6 yX6_freeBehind yX6_freeBehind, Cond.code yX6_freeBehind cX6_freeBehind 5 (some .int), Cond.methodLink RX6 48 yX6_onLast, Cond.instanceMethod yX6_onLast, Cond.selects RX6 yX6_onLast yX6_onLast, Cond.code yX6_onLast cX6_onLast 5 (some .int), Cond.methodLink RX6 72 yX6_chosen, Cond.instanceMethod yX6_chosen, Cond.selects RX6 yX6_chosen yX6_chosen, Cond.code yX6_chosen cX6_chosen 7 (some .int), Cond.methodLink RX6 51 yX6_lowest, Cond.static yX6_lowest, Cond.code yX6_lowest cX6_lowest 2 (some .int), Cond.methodLink RX6 54 yX6_loadOf, Cond.instanceMethod yX6_loadOf, Cond.selects RX6 yX6_loadOf yX6_loadOf, Cond.code yX6_loadOf cX6_loadOf 5 (some .int), Cond.methodLink RX6 75 yX6_pairOf, Cond.instanceMethod yX6_pairOf, Cond.selects RX6 yX6_pairOf yX6_pairOf]
def wsX6_wouldDrop_r4 : List Cond := [Cond.code yX6_pairOf cX6_pairOf 10 (some .int), Cond.methodLink RX6 58 yX6_lays, Cond.instanceMethod yX6_lays, Cond.selects RX6 yX6_lays yX6_lays, Cond.code yX6_lays cX6_lays 8 (some .int)]
def wsX6_wouldDrop : List Cond := .code yX6_wouldDrop cX6_wouldDrop 2 (some .int) :: ((wsX6_wouldDrop_r1 ++ (wsX6_wouldDrop_r2 ++ (wsX6_wouldDrop_r3 ++ wsX6_wouldDrop_r4))) ++ wsX60)
def wsX6_reachable_r1 : List Cond := [Cond.fieldLink RX6 7 "ClosExchangeModel" "s" "[I", Cond.methodLink RX6 78 yX6_isLine, Cond.instanceMethod yX6_isLine, Cond.selects RX6 yX6_isLine yX6_isLine, Cond.initialized RX6, Cond.code yX6_isLine cX6_isLine 3 (some .boolean), Cond.methodLink RX6 30 yX6_lines, Cond.instanceMethod yX6_lines, Cond.selects RX6 yX6_lines yX6_lines, Cond.code yX6_lines cX6_lines 2 (some .int), Cond.methodLink RX6 34 yX6_in, Cond.static yX6_in, Cond.code yX6_in cX6_in 3 (some .boolean), Cond.methodLink RX6 41 yX6_of, Cond.instanceMethod yX6_of, Cond.selects RX6 yX6_of yX6_of, Cond.code yX6_of cX6_of 4 (some .int), Cond.methodLink RX6 62 yX6_freeAhead, Cond.instanceMethod yX6_freeAhead, Cond.selects RX6 yX6_freeAhead yX6_freeAhead, Cond.code yX6_freeAhead cX6_freeAhead 5 (some .int), Cond.methodLink RX6 26 yX6_has, Cond.static yX6_has, Cond.code yX6_has cX6_has 2 (some .boolean)]
def wsX6_reachable_r2 : List Cond := [Cond.methodLink RX6 45 yX6_onFirst, Cond.instanceMethod yX6_onFirst, Cond.selects RX6 yX6_onFirst yX6_onFirst, Cond.code yX6_onFirst cX6_onFirst 5 (some .int), Cond.methodLink RX6 81 yX6_inletTo, Cond.instanceMethod yX6_inletTo, Cond.selects RX6 yX6_inletTo yX6_inletTo, Cond.code yX6_inletTo cX6_inletTo 4 (some .int), Cond.methodLink RX6 65 yX6_freeBehind, Cond.instanceMethod yX6_freeBehind, Cond.selects RX6 yX6_freeBehind yX6_freeBehind, Cond.code yX6_freeBehind cX6_freeBehind 5 (some .int), Cond.methodLink RX6 48 yX6_onLast, Cond.instanceMethod yX6_onLast, Cond.selects RX6 yX6_onLast yX6_onLast, Cond.code yX6_onLast cX6_onLast 5 (some .int)]
def wsX6_reachable : List Cond := .code yX6_reachable cX6_reachable 6 (some .int) :: ((wsX6_reachable_r1 ++ wsX6_reachable_r2) ++ wsX60)
def wsJ9_max_7cf53 : List Cond := .code yJ9_max_7cf53 cJ9_max_7cf53 2 (some .int) :: ([])
def wsJ9_min_7cf53 : List Cond := .code yJ9_min_7cf53 cJ9_min_7cf53 2 (some .int) :: ([])
def wsL_law_r1 : List Cond := [Cond.classLink RL 7 RX5, Cond.instantiable RX5 8, Cond.initialized RX5, Cond.classLink RL 10 RX6, Cond.instantiable RX6 12, Cond.initialized RX6, Cond.methodLink RL 9 yX5_init, Cond.instanceMethod yX5_init, Cond.code yX5_init cX5_init 1 none, Cond.methodLink RX5 3 objectInit, Cond.instanceMethod objectInit, Cond.code objectInit ⟨#[0xb1]⟩ 1 none, Cond.classLink RX5 9 RX1, Cond.instantiable RX1 16, Cond.initialized RX1, Cond.fieldLink RX5 12 "ClosExchange" "network" "LClosExchange$Network;", Cond.fieldLink RX5 16 "ClosExchange" "before" "LClosExchange$Network;", Cond.fieldLink RX5 19 "ClosExchange" "snapshot" "LClosExchange$Network;", Cond.fieldLink RX5 22 "ClosExchange" "trial" "LClosExchange$Network;", Cond.classLink RX5 25 RX3, Cond.instantiable RX3 5, Cond.initialized RX3, Cond.fieldLink RX5 28 "ClosExchange" "router" "LClosExchange$Router;", Cond.classLink RX5 32 RX0]
def wsL_law_r2 : List Cond := [Cond.instantiable RX0 3, Cond.initialized RX0, Cond.fieldLink RX5 35 "ClosExchange" "history" "LClosExchange$History;", Cond.classLink RX5 39 RX2, Cond.instantiable RX2 6, Cond.initialized RX2, Cond.fieldLink RX5 42 "ClosExchange" "text" "LClosExchange$OrderText;", Cond.fieldLink RX5 46 "ClosExchange" "kept" "Z", Cond.methodLink RX5 11 yX1_init, Cond.instanceMethod yX1_init, Cond.code yX1_init cX1_init 1 none, Cond.methodLink RX1 3 objectInit, Cond.fieldLink RX1 9 "ClosExchange$Network" "boards" "I", Cond.fieldLink RX1 15 "ClosExchange$Network" "lines" "I", Cond.fieldLink RX1 18 "ClosExchange$Network" "middles" "I", Cond.fieldLink RX1 21 "ClosExchange$Network" "service" "I", Cond.classLink RX1 24 RX4, Cond.instantiable RX4 1, Cond.initialized RX4, Cond.fieldLink RX1 29 "ClosExchange$Network" "numbers" "LClosExchange$Row;", Cond.fieldLink RX1 33 "ClosExchange$Network" "outlets" "LClosExchange$Row;", Cond.fieldLink RX1 36 "ClosExchange$Network" "vias" "LClosExchange$Row;", Cond.fieldLink RX1 39 "ClosExchange$Network" "inlets" "LClosExchange$Row;", Cond.fieldLink RX1 42 "ClosExchange$Network" "firstLinks" "LClosExchange$Row;"]
def wsL_law_r3 : List Cond := [Cond.fieldLink RX1 45 "ClosExchange$Network" "lastLinks" "LClosExchange$Row;", Cond.methodLink RX1 26 yX4_init, Cond.instanceMethod yX4_init, Cond.code yX4_init cX4_init 2 none, Cond.methodLink RX4 3 objectInit, Cond.methodLink RX4 9 Lib.Math.max.name, Cond.static Lib.Math.max.name, Cond.initialized "java/lang/Math", Cond.code Lib.Math.max.name Lib.Math.max.code 2 (some .int), Cond.arrayClass .int, Cond.fieldLink RX4 15 "ClosExchange$Row" "cells" "[I", Cond.methodLink RX4 21 yJ7_fill_53178, Cond.static yJ7_fill_53178, Cond.initialized RJ7, Cond.code yJ7_fill_53178 cJ7_fill_53178 4 none, Cond.methodLink RX5 27 yX3_init, Cond.instanceMethod yX3_init, Cond.code yX3_init cX3_init 1 none, Cond.methodLink RX3 3 objectInit, Cond.classLink RX3 9 RX4, Cond.fieldLink RX3 14 "ClosExchange$Router" "chain" "LClosExchange$Row;", Cond.fieldLink RX3 20 "ClosExchange$Router" "formerVias" "LClosExchange$Row;", Cond.methodLink RX3 11 yX4_init, Cond.methodLink RX5 34 yX0_init]
def wsL_law_r4 : List Cond := [Cond.instanceMethod yX0_init, Cond.code yX0_init cX0_init 2 none, Cond.methodLink RX0 3 objectInit, Cond.classLink RX0 9 RX1, Cond.fieldLink RX0 11 "ClosExchange$History" "states" "[LClosExchange$Network;", Cond.methodLink RX0 17 yX1_init, Cond.methodLink RX5 41 yX2_init, Cond.instanceMethod yX2_init, Cond.code yX2_init cX2_init 1 none, Cond.methodLink RX2 3 objectInit, Cond.classLink RX2 9 RX4, Cond.fieldLink RX2 14 "ClosExchange$OrderText" "signs" "LClosExchange$Row;", Cond.methodLink RX2 11 yX4_init, Cond.methodLink RL 12 yX6_init, Cond.instanceMethod yX6_init, Cond.code yX6_init cX6_init 1 none, Cond.methodLink RX6 1 objectInit, Cond.fieldLink RX6 7 "ClosExchangeModel" "s" "[I", Cond.fieldLink RX6 13 "ClosExchangeModel" "text" "[I", Cond.fieldLink RX6 16 "ClosExchangeModel" "chain" "[I", Cond.fieldLink RX6 19 "ClosExchangeModel" "before" "[I", Cond.methodLink RX6 22 yX6_builds, Cond.instanceMethod yX6_builds, Cond.selects RX6 yX6_builds yX6_builds]
def wsL_law_r5 : List Cond := [Cond.code yX6_builds cX6_builds 6 none, Cond.methodLink RX6 38 yX6_lay, Cond.instanceMethod yX6_lay, Cond.selects RX6 yX6_lay yX6_lay, Cond.code yX6_lay cX6_lay 5 none, Cond.methodLink RL 13 yX5_setUp, Cond.instanceMethod yX5_setUp, Cond.selects RX5 yX5_setUp yX5_setUp, Cond.code yX5_setUp cX5_setUp 4 (some .int), Cond.methodLink RX5 50 yX5_within, Cond.static yX5_within, Cond.code yX5_within cX5_within 3 (some .boolean), Cond.methodLink RX5 54 yX0_push, Cond.instanceMethod yX0_push, Cond.selects RX0 yX0_push yX0_push, Cond.code yX0_push cX0_push 3 none, Cond.fieldLink RX0 18 "ClosExchange$History" "latest" "I", Cond.fieldLink RX0 30 "ClosExchange$History" "count" "I", Cond.methodLink RX0 33 Lib.Math.min.name, Cond.static Lib.Math.min.name, Cond.code Lib.Math.min.name Lib.Math.min.code 2 (some .int), Cond.methodLink RX0 22 yX0_latestState, Cond.instanceMethod yX0_latestState, Cond.selects RX0 yX0_latestState yX0_latestState]
def wsL_law_r6 : List Cond := [Cond.code yX0_latestState cX0_latestState 1 (some (.object "ClosExchange$Network")), Cond.methodLink RX0 26 yX1_copyFrom, Cond.instanceMethod yX1_copyFrom, Cond.selects RX1 yX1_copyFrom yX1_copyFrom, Cond.code yX1_copyFrom cX1_copyFrom 2 none, Cond.fieldLink RX1 48 "ClosExchange$Network" "choiceRule" "I", Cond.fieldLink RX1 51 "ClosExchange$Network" "pairRule" "I", Cond.fieldLink RX1 54 "ClosExchange$Network" "connected" "I", Cond.fieldLink RX1 57 "ClosExchange$Network" "ended" "I", Cond.fieldLink RX1 60 "ClosExchange$Network" "dropped" "I", Cond.fieldLink RX1 63 "ClosExchange$Network" "moved" "I", Cond.methodLink RX1 66 yX4_copyFrom, Cond.instanceMethod yX4_copyFrom, Cond.selects RX4 yX4_copyFrom yX4_copyFrom, Cond.code yX4_copyFrom cX4_copyFrom 2 none, Cond.methodLink RX4 27 Lib.Math.min.name, Cond.methodLink RX4 30 arraycopyName, Cond.native arraycopyName, Cond.static arraycopyName, Cond.initialized "java/lang/System", Cond.methodLink RX5 58 yX1_rebuild, Cond.instanceMethod yX1_rebuild, Cond.selects RX1 yX1_rebuild yX1_rebuild, Cond.code yX1_rebuild cX1_rebuild 5 (some .int)]
def wsL_law_r7 : List Cond := [Cond.methodLink RX1 70 yX1_countCalls, Cond.instanceMethod yX1_countCalls, Cond.selects RX1 yX1_countCalls yX1_countCalls, Cond.code yX1_countCalls cX1_countCalls 3 (some .int), Cond.methodLink RX1 77 yX4_get, Cond.instanceMethod yX4_get, Cond.selects RX4 yX4_get yX4_get, Cond.code yX4_get cX4_get 2 (some .int), Cond.methodLink RX1 74 yX4_empty, Cond.instanceMethod yX4_empty, Cond.selects RX4 yX4_empty yX4_empty, Cond.code yX4_empty cX4_empty 1 none, Cond.methodLink RL 17 yX6_setUp, Cond.instanceMethod yX6_setUp, Cond.selects RX6 yX6_setUp yX6_setUp, Cond.code yX6_setUp cX6_setUp 5 (some .int), Cond.methodLink RX6 34 yX6_in, Cond.static yX6_in, Cond.code yX6_in cX6_in 3 (some .boolean), Cond.methodLink RX6 105 yX6_copies, Cond.instanceMethod yX6_copies, Cond.selects RX6 yX6_copies yX6_copies, Cond.code yX6_copies cX6_copies 4 none, Cond.methodLink RX6 96 yX6_calls]
def wsL_law_r8 : List Cond := [Cond.instanceMethod yX6_calls, Cond.selects RX6 yX6_calls yX6_calls, Cond.code yX6_calls cX6_calls 4 (some .int), Cond.methodLink RX6 30 yX6_lines, Cond.instanceMethod yX6_lines, Cond.selects RX6 yX6_lines yX6_lines, Cond.code yX6_lines cX6_lines 2 (some .int), Cond.methodLink RX6 41 yX6_of, Cond.instanceMethod yX6_of, Cond.selects RX6 yX6_of yX6_of, Cond.code yX6_of cX6_of 4 (some .int), Cond.methodLink RX6 109 yX6_accepts, Cond.instanceMethod yX6_accepts, Cond.selects RX6 yX6_accepts yX6_accepts, Cond.code yX6_accepts cX6_accepts 3 (some .int), Cond.fieldLink RX6 102 "ClosExchangeModel" "states" "I", Cond.methodLink RL 18 yX5_setChoiceRule, Cond.instanceMethod yX5_setChoiceRule, Cond.selects RX5 yX5_setChoiceRule yX5_setChoiceRule, Cond.code yX5_setChoiceRule cX5_setChoiceRule 3 (some .int), Cond.fieldLink RX5 62 "ClosExchange$Network" "choiceRule" "I", Cond.methodLink RL 22 yX6_setChoiceRule, Cond.instanceMethod yX6_setChoiceRule, Cond.selects RX6 yX6_setChoiceRule yX6_setChoiceRule]
def wsL_law_r9 : List Cond := [Cond.code yX6_setChoiceRule cX6_setChoiceRule 2 (some .int), Cond.methodLink RX6 112 yX6_rules, Cond.instanceMethod yX6_rules, Cond.selects RX6 yX6_rules yX6_rules, Cond.code yX6_rules cX6_rules 5 (some .int), Cond.methodLink RL 23 yX5_setPairRule, Cond.instanceMethod yX5_setPairRule, Cond.selects RX5 yX5_setPairRule yX5_setPairRule, Cond.code yX5_setPairRule cX5_setPairRule 3 (some .int), Cond.fieldLink RX5 66 "ClosExchange$Network" "pairRule" "I", Cond.methodLink RL 26 yX6_setPairRule, Cond.instanceMethod yX6_setPairRule, Cond.selects RX6 yX6_setPairRule yX6_setPairRule, Cond.code yX6_setPairRule cX6_setPairRule 2 (some .int), Cond.methodLink RL 27 yX5_connect, Cond.instanceMethod yX5_connect, Cond.selects RX5 yX5_connect yX5_connect, Cond.code yX5_connect cX5_connect 3 (some .int), Cond.methodLink RX5 69 yX1_copyFrom, Cond.methodLink RX5 72 yX3_join, Cond.instanceMethod yX3_join, Cond.selects RX3 yX3_join yX3_join, Cond.code yX3_join cX3_join 5 (some .int), Cond.methodLink RX3 23 yX3_tryCall]
def wsL_law_r10 : List Cond := [Cond.instanceMethod yX3_tryCall, Cond.selects RX3 yX3_tryCall yX3_tryCall, Cond.code yX3_tryCall cX3_tryCall 4 (some .int), Cond.methodLink RX3 37 yX1_isLine, Cond.instanceMethod yX1_isLine, Cond.selects RX1 yX1_isLine yX1_isLine, Cond.code yX1_isLine cX1_isLine 2 (some .boolean), Cond.methodLink RX3 41 yX1_isInletBusy, Cond.instanceMethod yX1_isInletBusy, Cond.selects RX1 yX1_isInletBusy yX1_isInletBusy, Cond.code yX1_isInletBusy cX1_isInletBusy 2 (some .boolean), Cond.methodLink RX3 104 yX1_isOutletBusy, Cond.instanceMethod yX1_isOutletBusy, Cond.selects RX1 yX1_isOutletBusy yX1_isOutletBusy, Cond.code yX1_isOutletBusy cX1_isOutletBusy 2 (some .boolean), Cond.methodLink RX3 107 yX3_findWay, Cond.instanceMethod yX3_findWay, Cond.selects RX3 yX3_findWay yX3_findWay, Cond.code yX3_findWay cX3_findWay 7 (some .int), Cond.fieldLink RX3 119 "ClosExchange$Router" "chainLength" "I", Cond.fieldLink RX3 125 "ClosExchange$Network" "firstLinks" "LClosExchange$Row;", Cond.fieldLink RX3 132 "ClosExchange$Network" "lastLinks" "LClosExchange$Row;", Cond.fieldLink RX3 143 "ClosExchange$Router" "pairP" "I", Cond.methodLink RX3 122 yX1_boardOf]
def wsL_law_r11 : List Cond := [Cond.instanceMethod yX1_boardOf, Cond.selects RX1 yX1_boardOf yX1_boardOf, Cond.code yX1_boardOf cX1_boardOf 2 (some .int), Cond.methodLink RX3 128 yX1_freeOnLinks, Cond.instanceMethod yX1_freeOnLinks, Cond.selects RX1 yX1_freeOnLinks yX1_freeOnLinks, Cond.code yX1_freeOnLinks cX1_freeOnLinks 5 (some .int), Cond.static yX5_link, Cond.code yX5_link cX5_link 2 (some .int), Cond.methodLink RX3 135 yX3_choose, Cond.instanceMethod yX3_choose, Cond.selects RX3 yX3_choose yX3_choose, Cond.code yX3_choose cX3_choose 8 (some .int), Cond.fieldLink RX3 146 "ClosExchange$Network" "choiceRule" "I", Cond.static yX5_hasBit, Cond.code yX5_hasBit cX5_hasBit 2 (some .boolean), Cond.methodLink RX3 149 yX1_loadOf, Cond.instanceMethod yX1_loadOf, Cond.selects RX1 yX1_loadOf yX1_loadOf, Cond.code yX1_loadOf cX1_loadOf 4 (some .int), Cond.methodLink RX3 139 yX3_findPair, Cond.instanceMethod yX3_findPair, Cond.selects RX3 yX3_findPair yX3_findPair, Cond.code yX3_findPair cX3_findPair 11 none]
def wsL_law_r12 : List Cond := [Cond.fieldLink RX3 155 "ClosExchange$Network" "pairRule" "I", Cond.methodLink RX3 152 yX3_follow, Cond.instanceMethod yX3_follow, Cond.selects RX3 yX3_follow yX3_follow, Cond.code yX3_follow cX3_follow 9 none, Cond.fieldLink RX3 158 "ClosExchange$Router" "pairQ" "I", Cond.fieldLink RX3 113 "ClosExchange$Network" "outlets" "LClosExchange$Row;", Cond.methodLink RX3 47 yX4_get, Cond.methodLink RX3 164 yX4_set, Cond.instanceMethod yX4_set, Cond.selects RX4 yX4_set yX4_set, Cond.code yX4_set cX4_set 3 none, Cond.methodLink RX3 27 yX1_addCall, Cond.instanceMethod yX1_addCall, Cond.selects RX1 yX1_addCall yX1_addCall, Cond.code yX1_addCall cX1_addCall 3 none, Cond.methodLink RX1 97 yX4_set, Cond.methodLink RX3 33 yX3_settle, Cond.instanceMethod yX3_settle, Cond.selects RX3 yX3_settle yX3_settle, Cond.code yX3_settle cX3_settle 5 none, Cond.fieldLink RX3 87 "ClosExchange$Network" "moved" "I", Cond.methodLink RX3 71 yX1_liftCall, Cond.instanceMethod yX1_liftCall]
def wsL_law_r13 : List Cond := [Cond.selects RX1 yX1_liftCall yX1_liftCall, Cond.code yX1_liftCall cX1_liftCall 3 none, Cond.methodLink RX1 104 yX1_boardOf, Cond.methodLink RX3 167 yX1_carryCall, Cond.instanceMethod yX1_carryCall, Cond.selects RX1 yX1_carryCall yX1_carryCall, Cond.code yX1_carryCall cX1_carryCall 3 none, Cond.methodLink RX5 76 yX5_recorded, Cond.instanceMethod yX5_recorded, Cond.selects RX5 yX5_recorded yX5_recorded, Cond.code yX5_recorded cX5_recorded 2 (some .int), Cond.methodLink RL 31 yX6_connect, Cond.instanceMethod yX6_connect, Cond.selects RX6 yX6_connect yX6_connect, Cond.code yX6_connect cX6_connect 3 (some .int), Cond.methodLink RX6 115 yX6_connects, Cond.instanceMethod yX6_connects, Cond.selects RX6 yX6_connects yX6_connects, Cond.code yX6_connects cX6_connects 4 (some .int), Cond.methodLink RX6 78 yX6_isLine, Cond.instanceMethod yX6_isLine, Cond.selects RX6 yX6_isLine yX6_isLine, Cond.code yX6_isLine cX6_isLine 3 (some .boolean), Cond.methodLink RX6 81 yX6_inletTo]
def wsL_law_r14 : List Cond := [Cond.instanceMethod yX6_inletTo, Cond.selects RX6 yX6_inletTo yX6_inletTo, Cond.code yX6_inletTo cX6_inletTo 4 (some .int), Cond.methodLink RX6 84 yX6_routes, Cond.instanceMethod yX6_routes, Cond.selects RX6 yX6_routes yX6_routes, Cond.code yX6_routes cX6_routes 9 (some .int), Cond.fieldLink RX6 68 "ClosExchangeModel" "chained" "I", Cond.methodLink RX6 62 yX6_freeAhead, Cond.instanceMethod yX6_freeAhead, Cond.selects RX6 yX6_freeAhead yX6_freeAhead, Cond.code yX6_freeAhead cX6_freeAhead 5 (some .int), Cond.methodLink RX6 26 yX6_has, Cond.static yX6_has, Cond.code yX6_has cX6_has 2 (some .boolean), Cond.methodLink RX6 45 yX6_onFirst, Cond.instanceMethod yX6_onFirst, Cond.selects RX6 yX6_onFirst yX6_onFirst, Cond.code yX6_onFirst cX6_onFirst 5 (some .int), Cond.methodLink RX6 65 yX6_freeBehind, Cond.instanceMethod yX6_freeBehind, Cond.selects RX6 yX6_freeBehind yX6_freeBehind, Cond.code yX6_freeBehind cX6_freeBehind 5 (some .int), Cond.methodLink RX6 48 yX6_onLast]
def wsL_law_r15 : List Cond := [Cond.instanceMethod yX6_onLast, Cond.selects RX6 yX6_onLast yX6_onLast, Cond.code yX6_onLast cX6_onLast 5 (some .int), Cond.methodLink RX6 72 yX6_chosen, Cond.instanceMethod yX6_chosen, Cond.selects RX6 yX6_chosen yX6_chosen, Cond.code yX6_chosen cX6_chosen 7 (some .int), Cond.methodLink RX6 51 yX6_lowest, Cond.static yX6_lowest, Cond.code yX6_lowest cX6_lowest 2 (some .int), Cond.methodLink RX6 54 yX6_loadOf, Cond.instanceMethod yX6_loadOf, Cond.selects RX6 yX6_loadOf yX6_loadOf, Cond.code yX6_loadOf cX6_loadOf 5 (some .int), Cond.methodLink RX6 75 yX6_pairOf, Cond.instanceMethod yX6_pairOf, Cond.selects RX6 yX6_pairOf yX6_pairOf, Cond.code yX6_pairOf cX6_pairOf 10 (some .int), Cond.methodLink RX6 58 yX6_lays, Cond.instanceMethod yX6_lays, Cond.selects RX6 yX6_lays yX6_lays, Cond.code yX6_lays cX6_lays 8 (some .int), Cond.methodLink RL 32 yX5_disconnect, Cond.instanceMethod yX5_disconnect]
def wsL_law_r16 : List Cond := [Cond.selects RX5 yX5_disconnect yX5_disconnect, Cond.code yX5_disconnect cX5_disconnect 2 (some .int), Cond.methodLink RX5 80 yX3_part, Cond.instanceMethod yX3_part, Cond.selects RX3 yX3_part yX3_part, Cond.code yX3_part cX3_part 4 (some .int), Cond.fieldLink RX3 44 "ClosExchange$Network" "numbers" "LClosExchange$Row;", Cond.fieldLink RX3 54 "ClosExchange$Network" "ended" "I", Cond.methodLink RX3 51 yX1_removeCall, Cond.instanceMethod yX1_removeCall, Cond.selects RX1 yX1_removeCall yX1_removeCall, Cond.code yX1_removeCall cX1_removeCall 2 none, Cond.methodLink RX1 101 yX1_liftCall, Cond.methodLink RL 35 yX6_disconnect, Cond.instanceMethod yX6_disconnect, Cond.selects RX6 yX6_disconnect yX6_disconnect, Cond.code yX6_disconnect cX6_disconnect 2 (some .int), Cond.methodLink RX6 118 yX6_disconnects, Cond.instanceMethod yX6_disconnects, Cond.selects RX6 yX6_disconnects yX6_disconnects, Cond.code yX6_disconnects cX6_disconnects 4 (some .int), Cond.methodLink RL 36 yX5_takeOut, Cond.instanceMethod yX5_takeOut, Cond.selects RX5 yX5_takeOut yX5_takeOut]
def wsL_law_r17 : List Cond := [Cond.code yX5_takeOut cX5_takeOut 2 (some .int), Cond.methodLink RX5 84 yX3_retire, Cond.instanceMethod yX3_retire, Cond.selects RX3 yX3_retire yX3_retire, Cond.code yX3_retire cX3_retire 4 (some .int), Cond.fieldLink RX3 61 "ClosExchange$Network" "service" "I", Cond.fieldLink RX3 68 "ClosExchange$Network" "vias" "LClosExchange$Row;", Cond.methodLink RX3 58 yX1_isMiddle, Cond.instanceMethod yX1_isMiddle, Cond.selects RX1 yX1_isMiddle yX1_isMiddle, Cond.code yX1_isMiddle cX1_isMiddle 2 (some .boolean), Cond.methodLink RX3 74 yX3_reroute, Cond.instanceMethod yX3_reroute, Cond.selects RX3 yX3_reroute yX3_reroute, Cond.code yX3_reroute cX3_reroute 6 (some .int), Cond.fieldLink RX3 116 "ClosExchange$Network" "dropped" "I", Cond.methodLink RX3 110 yX1_firstLifted, Cond.instanceMethod yX1_firstLifted, Cond.selects RX1 yX1_firstLifted yX1_firstLifted, Cond.code yX1_firstLifted cX1_firstLifted 3 (some .int), Cond.methodLink RX1 85 yX1_isInletBusy, Cond.methodLink RL 39 yX6_takeOut, Cond.instanceMethod yX6_takeOut, Cond.selects RX6 yX6_takeOut yX6_takeOut]
def wsL_law_r18 : List Cond := [Cond.code yX6_takeOut cX6_takeOut 2 (some .int), Cond.methodLink RX6 121 yX6_takesOut, Cond.instanceMethod yX6_takesOut, Cond.selects RX6 yX6_takesOut yX6_takesOut, Cond.code yX6_takesOut cX6_takesOut 5 (some .int), Cond.methodLink RX6 87 yX6_isMiddle, Cond.instanceMethod yX6_isMiddle, Cond.selects RX6 yX6_isMiddle yX6_isMiddle, Cond.code yX6_isMiddle cX6_isMiddle 3 (some .boolean), Cond.methodLink RX6 90 yX6_nextOff, Cond.instanceMethod yX6_nextOff, Cond.selects RX6 yX6_nextOff yX6_nextOff, Cond.code yX6_nextOff cX6_nextOff 5 (some .int), Cond.methodLink RL 40 yX5_putBack, Cond.instanceMethod yX5_putBack, Cond.selects RX5 yX5_putBack yX5_putBack, Cond.code yX5_putBack cX5_putBack 2 (some .int), Cond.methodLink RX5 87 yX3_revive, Cond.instanceMethod yX3_revive, Cond.selects RX3 yX3_revive yX3_revive, Cond.code yX3_revive cX3_revive 3 (some .int), Cond.methodLink RX3 78 yJ6_bitCount_0f7a4, Cond.static yJ6_bitCount_0f7a4, Cond.initialized RJ6]
def wsL_law_r19 : List Cond := [Cond.code yJ6_bitCount_0f7a4 cJ6_bitCount_0f7a4 1 (some .int), Cond.constant RJ6 265 (1431655765), Cond.constant RJ6 266 (858993459), Cond.constant RJ6 267 (252645135), Cond.methodLink RL 43 yX6_putBack, Cond.instanceMethod yX6_putBack, Cond.selects RX6 yX6_putBack yX6_putBack, Cond.code yX6_putBack cX6_putBack 2 (some .int), Cond.methodLink RX6 124 yX6_putsBack, Cond.instanceMethod yX6_putsBack, Cond.selects RX6 yX6_putsBack yX6_putsBack, Cond.code yX6_putsBack cX6_putsBack 3 (some .int), Cond.methodLink RX6 93 yX6_bits, Cond.static yX6_bits, Cond.code yX6_bits cX6_bits 3 (some .int), Cond.methodLink RL 44 yX5_pack, Cond.instanceMethod yX5_pack, Cond.selects RX5 yX5_pack yX5_pack, Cond.code yX5_pack cX5_pack 1 (some .int), Cond.methodLink RX5 90 yX3_repack, Cond.instanceMethod yX3_repack, Cond.selects RX3 yX3_repack yX3_repack, Cond.code yX3_repack cX3_repack 5 (some .int), Cond.methodLink RX3 83 yX1_countCalls]
def wsL_law_r20 : List Cond := [Cond.methodLink RX3 90 yX1_fullestBoard, Cond.instanceMethod yX1_fullestBoard, Cond.selects RX1 yX1_fullestBoard yX1_fullestBoard, Cond.code yX1_fullestBoard cX1_fullestBoard 6 (some .int), Cond.methodLink RX1 92 Lib.Math.max.name, Cond.methodLink RX1 89 yX1_isOutletBusy, Cond.methodLink RX3 93 yX3_lowestBits, Cond.static yX3_lowestBits, Cond.code yX3_lowestBits cX3_lowestBits 5 (some .int), Cond.methodLink RX3 97 yX4_copyFrom, Cond.methodLink RX3 101 yX3_countChanged, Cond.instanceMethod yX3_countChanged, Cond.selects RX3 yX3_countChanged yX3_countChanged, Cond.code yX3_countChanged cX3_countChanged 4 (some .int), Cond.methodLink RL 48 yX6_pack, Cond.instanceMethod yX6_pack, Cond.selects RX6 yX6_pack yX6_pack, Cond.code yX6_pack cX6_pack 1 (some .int), Cond.methodLink RX6 127 yX6_packs, Cond.instanceMethod yX6_packs, Cond.selects RX6 yX6_packs yX6_packs, Cond.code yX6_packs cX6_packs 8 (some .int), Cond.methodLink RX6 99 yX6_least, Cond.instanceMethod yX6_least]
def wsL_law_r21 : List Cond := [Cond.selects RX6 yX6_least yX6_least, Cond.code yX6_least cX6_least 8 (some .int), Cond.methodLink RL 49 yX5_type, Cond.instanceMethod yX5_type, Cond.selects RX5 yX5_type yX5_type, Cond.code yX5_type cX5_type 2 (some .int), Cond.methodLink RX5 94 yX2_append, Cond.instanceMethod yX2_append, Cond.selects RX2 yX2_append yX2_append, Cond.code yX2_append cX2_append 2 (some .int), Cond.fieldLink RX2 20 "ClosExchange$OrderText" "length" "I", Cond.methodLink RX2 24 yX4_set, Cond.methodLink RL 53 yX6_type, Cond.instanceMethod yX6_type, Cond.selects RX6 yX6_type yX6_type, Cond.code yX6_type cX6_type 2 (some .int), Cond.fieldLink RX6 130 "ClosExchangeModel" "typed" "I", Cond.methodLink RL 54 yX5_clearText, Cond.instanceMethod yX5_clearText, Cond.selects RX5 yX5_clearText yX5_clearText, Cond.code yX5_clearText cX5_clearText 2 (some .int), Cond.fieldLink RX5 97 "ClosExchange$OrderText" "length" "I", Cond.methodLink RL 57 yX6_clearText, Cond.instanceMethod yX6_clearText]
def wsL_law_r22 : List Cond := [Cond.selects RX6 yX6_clearText yX6_clearText, Cond.code yX6_clearText cX6_clearText 2 (some .int), Cond.methodLink RL 58 yX5_perform, Cond.instanceMethod yX5_perform, Cond.selects RX5 yX5_perform yX5_perform, Cond.code yX5_perform cX5_perform 4 (some .int), Cond.methodLink RX5 100 yX2_findFault, Cond.instanceMethod yX2_findFault, Cond.selects RX2 yX2_findFault yX2_findFault, Cond.code yX2_findFault cX2_findFault 2 (some .int), Cond.fieldLink RX2 28 "ClosExchange$OrderText" "place" "I", Cond.methodLink RX2 31 yX2_rewind, Cond.instanceMethod yX2_rewind, Cond.selects RX2 yX2_rewind yX2_rewind, Cond.code yX2_rewind cX2_rewind 1 none, Cond.methodLink RX2 34 yX2_readOrder, Cond.instanceMethod yX2_readOrder, Cond.selects RX2 yX2_readOrder yX2_readOrder, Cond.code yX2_readOrder cX2_readOrder 1 (some .boolean), Cond.fieldLink RX2 46 "ClosExchange$OrderText" "kind" "I", Cond.fieldLink RX2 53 "ClosExchange$OrderText" "first" "I", Cond.fieldLink RX2 56 "ClosExchange$OrderText" "second" "I", Cond.methodLink RX2 42 yX2_sign, Cond.instanceMethod yX2_sign]
def wsL_law_r23 : List Cond := [Cond.selects RX2 yX2_sign yX2_sign, Cond.code yX2_sign cX2_sign 1 (some .int), Cond.methodLink RX2 59 yX4_get, Cond.methodLink RX2 49 yX2_readNumber, Cond.instanceMethod yX2_readNumber, Cond.selects RX2 yX2_readNumber yX2_readNumber, Cond.code yX2_readNumber cX2_readNumber 6 (some .int), Cond.methodLink RX2 62 Lib.Math.max.name, Cond.methodLink RX2 38 yX2_skip, Cond.instanceMethod yX2_skip, Cond.selects RX2 yX2_skip yX2_skip, Cond.code yX2_skip cX2_skip 2 (some .boolean), Cond.methodLink RX5 104 yX2_rewind, Cond.methodLink RX5 107 yX2_readOrder, Cond.methodLink RX5 111 yX5_obey, Cond.instanceMethod yX5_obey, Cond.selects RX5 yX5_obey yX5_obey, Cond.code yX5_obey cX5_obey 1 (some .int), Cond.fieldLink RX5 219 "ClosExchange$OrderText" "kind" "I", Cond.fieldLink RX5 222 "ClosExchange$OrderText" "first" "I", Cond.fieldLink RX5 225 "ClosExchange$OrderText" "second" "I", Cond.methodLink RX5 114 yX2_skip, Cond.methodLink RL 61 yX6_perform, Cond.instanceMethod yX6_perform]
def wsL_law_r24 : List Cond := [Cond.selects RX6 yX6_perform yX6_perform, Cond.code yX6_perform cX6_perform 5 (some .int), Cond.fieldLink RX6 133 "ClosExchangeModel" "at" "I", Cond.methodLink RX6 163 yX6_fault, Cond.instanceMethod yX6_fault, Cond.selects RX6 yX6_fault yX6_fault, Cond.code yX6_fault cX6_fault 1 (some .int), Cond.methodLink RX6 159 yX6_reads, Cond.instanceMethod yX6_reads, Cond.selects RX6 yX6_reads yX6_reads, Cond.code yX6_reads cX6_reads 1 (some .boolean), Cond.fieldLink RX6 143 "ClosExchangeModel" "order" "I", Cond.fieldLink RX6 150 "ClosExchangeModel" "first" "I", Cond.fieldLink RX6 153 "ClosExchangeModel" "second" "I", Cond.methodLink RX6 139 yX6_takes, Cond.instanceMethod yX6_takes, Cond.selects RX6 yX6_takes yX6_takes, Cond.code yX6_takes cX6_takes 3 (some .boolean), Cond.methodLink RX6 136 yX6_isHere, Cond.instanceMethod yX6_isHere, Cond.selects RX6 yX6_isHere yX6_isHere, Cond.code yX6_isHere cX6_isHere 3 (some .boolean), Cond.methodLink RX6 146 yX6_number, Cond.instanceMethod yX6_number]
def wsL_law_r25 : List Cond := [Cond.selects RX6 yX6_number yX6_number, Cond.code yX6_number cX6_number 2 (some .int), Cond.methodLink RX6 156 yX6_digit, Cond.instanceMethod yX6_digit, Cond.selects RX6 yX6_digit yX6_digit, Cond.code yX6_digit cX6_digit 1 (some .int), Cond.methodLink RX6 166 yX6_carries, Cond.instanceMethod yX6_carries, Cond.selects RX6 yX6_carries yX6_carries, Cond.code yX6_carries cX6_carries 1 (some .int), Cond.methodLink RL 62 yX5_undo, Cond.instanceMethod yX5_undo, Cond.selects RX5 yX5_undo yX5_undo, Cond.code yX5_undo cX5_undo 1 (some .int), Cond.methodLink RX5 118 yX0_takeBack, Cond.instanceMethod yX0_takeBack, Cond.selects RX0 yX0_takeBack yX0_takeBack, Cond.code yX0_takeBack cX0_takeBack 3 (some .int), Cond.methodLink RL 65 yX6_undo, Cond.instanceMethod yX6_undo, Cond.selects RX6 yX6_undo yX6_undo, Cond.code yX6_undo cX6_undo 1 (some .int), Cond.methodLink RL 66 yX5_keep, Cond.instanceMethod yX5_keep]
def wsL_law_r26 : List Cond := [Cond.selects RX5 yX5_keep yX5_keep, Cond.code yX5_keep cX5_keep 1 (some .int), Cond.methodLink RX5 121 yX1_countCalls, Cond.methodLink RL 69 yX6_keep, Cond.instanceMethod yX6_keep, Cond.selects RX6 yX6_keep yX6_keep, Cond.code yX6_keep cX6_keep 1 (some .int), Cond.fieldLink RX6 169 "ClosExchangeModel" "isKept" "Z", Cond.methodLink RL 70 yX5_restore, Cond.instanceMethod yX5_restore, Cond.selects RX5 yX5_restore yX5_restore, Cond.code yX5_restore cX5_restore 1 (some .int), Cond.methodLink RL 73 yX6_restore, Cond.instanceMethod yX6_restore, Cond.selects RX6 yX6_restore yX6_restore, Cond.code yX6_restore cX6_restore 1 (some .int), Cond.methodLink RL 74 yX5_callOfInlet, Cond.instanceMethod yX5_callOfInlet, Cond.selects RX5 yX5_callOfInlet yX5_callOfInlet, Cond.code yX5_callOfInlet cX5_callOfInlet 2 (some .int), Cond.fieldLink RX5 127 "ClosExchange$Network" "numbers" "LClosExchange$Row;", Cond.methodLink RX5 124 yX1_isLine, Cond.methodLink RX5 131 yX4_get, Cond.methodLink RL 77 yX6_callOfInlet]
def wsL_law_r27 : List Cond := [Cond.instanceMethod yX6_callOfInlet, Cond.selects RX6 yX6_callOfInlet yX6_callOfInlet, Cond.code yX6_callOfInlet cX6_callOfInlet 2 (some .int), Cond.methodLink RL 78 yX5_callOfOutlet, Cond.instanceMethod yX5_callOfOutlet, Cond.selects RX5 yX5_callOfOutlet yX5_callOfOutlet, Cond.code yX5_callOfOutlet cX5_callOfOutlet 2 (some .int), Cond.fieldLink RX5 136 "ClosExchange$Network" "inlets" "LClosExchange$Row;", Cond.methodLink RL 81 yX6_callOfOutlet, Cond.instanceMethod yX6_callOfOutlet, Cond.selects RX6 yX6_callOfOutlet yX6_callOfOutlet, Cond.code yX6_callOfOutlet cX6_callOfOutlet 3 (some .int), Cond.methodLink RL 82 yX5_inletOf, Cond.instanceMethod yX5_inletOf, Cond.selects RX5 yX5_inletOf yX5_inletOf, Cond.code yX5_inletOf cX5_inletOf 2 (some .int), Cond.methodLink RX5 139 yX1_findInlet, Cond.instanceMethod yX1_findInlet, Cond.selects RX1 yX1_findInlet yX1_findInlet, Cond.code yX1_findInlet cX1_findInlet 3 (some .int), Cond.methodLink RL 85 yX6_inletOf, Cond.instanceMethod yX6_inletOf, Cond.selects RX6 yX6_inletOf yX6_inletOf, Cond.code yX6_inletOf cX6_inletOf 3 (some .int)]
def wsL_law_r28 : List Cond := [Cond.methodLink RL 86 yX5_outletOf, Cond.instanceMethod yX5_outletOf, Cond.selects RX5 yX5_outletOf yX5_outletOf, Cond.code yX5_outletOf cX5_outletOf 3 (some .int), Cond.fieldLink RX5 142 "ClosExchange$Network" "outlets" "LClosExchange$Row;", Cond.methodLink RL 89 yX6_outletOf, Cond.instanceMethod yX6_outletOf, Cond.selects RX6 yX6_outletOf yX6_outletOf, Cond.code yX6_outletOf cX6_outletOf 3 (some .int), Cond.methodLink RX6 173 yX6_inletOf, Cond.methodLink RL 90 yX5_middleOf, Cond.instanceMethod yX5_middleOf, Cond.selects RX5 yX5_middleOf yX5_middleOf, Cond.code yX5_middleOf cX5_middleOf 3 (some .int), Cond.fieldLink RX5 145 "ClosExchange$Network" "vias" "LClosExchange$Row;", Cond.methodLink RL 93 yX6_middleOf, Cond.instanceMethod yX6_middleOf, Cond.selects RX6 yX6_middleOf yX6_middleOf, Cond.code yX6_middleOf cX6_middleOf 3 (some .int), Cond.methodLink RL 94 yX5_onFirstLink, Cond.instanceMethod yX5_onFirstLink, Cond.selects RX5 yX5_onFirstLink yX5_onFirstLink, Cond.code yX5_onFirstLink cX5_onFirstLink 3 (some .int), Cond.fieldLink RX5 154 "ClosExchange$Network" "firstLinks" "LClosExchange$Row;"]
def wsL_law_r29 : List Cond := [Cond.methodLink RX5 148 yX1_isBoard, Cond.instanceMethod yX1_isBoard, Cond.selects RX1 yX1_isBoard yX1_isBoard, Cond.code yX1_isBoard cX1_isBoard 2 (some .boolean), Cond.methodLink RX5 151 yX1_isMiddle, Cond.methodLink RX5 157 yX5_link, Cond.methodLink RL 97 yX6_onFirstLink, Cond.instanceMethod yX6_onFirstLink, Cond.selects RX6 yX6_onFirstLink yX6_onFirstLink, Cond.code yX6_onFirstLink cX6_onFirstLink 4 (some .int), Cond.methodLink RX6 176 yX6_isBoard, Cond.instanceMethod yX6_isBoard, Cond.selects RX6 yX6_isBoard yX6_isBoard, Cond.code yX6_isBoard cX6_isBoard 2 (some .boolean), Cond.methodLink RL 98 yX5_onLastLink, Cond.instanceMethod yX5_onLastLink, Cond.selects RX5 yX5_onLastLink yX5_onLastLink, Cond.code yX5_onLastLink cX5_onLastLink 3 (some .int), Cond.fieldLink RX5 161 "ClosExchange$Network" "lastLinks" "LClosExchange$Row;", Cond.methodLink RL 101 yX6_onLastLink, Cond.instanceMethod yX6_onLastLink, Cond.selects RX6 yX6_onLastLink yX6_onLastLink, Cond.code yX6_onLastLink cX6_onLastLink 4 (some .int), Cond.methodLink RL 102 yX5_load]
def wsL_law_r30 : List Cond := [Cond.instanceMethod yX5_load, Cond.selects RX5 yX5_load yX5_load, Cond.code yX5_load cX5_load 2 (some .int), Cond.methodLink RX5 164 yX1_loadOf, Cond.methodLink RL 105 yX6_load, Cond.instanceMethod yX6_load, Cond.selects RX6 yX6_load yX6_load, Cond.code yX6_load cX6_load 2 (some .int), Cond.methodLink RL 106 yX5_freeForFirst, Cond.instanceMethod yX5_freeForFirst, Cond.selects RX5 yX5_freeForFirst yX5_freeForFirst, Cond.code yX5_freeForFirst cX5_freeForFirst 2 (some .int), Cond.methodLink RX5 167 yX1_freeOnLinks, Cond.methodLink RL 109 yX6_freeForFirst, Cond.instanceMethod yX6_freeForFirst, Cond.selects RX6 yX6_freeForFirst yX6_freeForFirst, Cond.code yX6_freeForFirst cX6_freeForFirst 2 (some .int), Cond.methodLink RL 110 yX5_freeForLast, Cond.instanceMethod yX5_freeForLast, Cond.selects RX5 yX5_freeForLast yX5_freeForLast, Cond.code yX5_freeForLast cX5_freeForLast 2 (some .int), Cond.methodLink RL 113 yX6_freeForLast, Cond.instanceMethod yX6_freeForLast, Cond.selects RX6 yX6_freeForLast yX6_freeForLast]
def wsL_law_r31 : List Cond := [Cond.code yX6_freeForLast cX6_freeForLast 2 (some .int), Cond.methodLink RL 114 yX5_inService, Cond.instanceMethod yX5_inService, Cond.selects RX5 yX5_inService yX5_inService, Cond.code yX5_inService cX5_inService 1 (some .int), Cond.fieldLink RX5 171 "ClosExchange$Network" "service" "I", Cond.methodLink RL 117 yX6_inService, Cond.instanceMethod yX6_inService, Cond.selects RX6 yX6_inService yX6_inService, Cond.code yX6_inService cX6_inService 1 (some .int), Cond.methodLink RL 118 yX5_total, Cond.instanceMethod yX5_total, Cond.selects RX5 yX5_total yX5_total, Cond.code yX5_total cX5_total 2 (some .int), Cond.fieldLink RX5 174 "ClosExchange$Network" "boards" "I", Cond.fieldLink RX5 177 "ClosExchange$Network" "lines" "I", Cond.fieldLink RX5 180 "ClosExchange$Network" "middles" "I", Cond.fieldLink RX5 183 "ClosExchange$Network" "connected" "I", Cond.fieldLink RX5 186 "ClosExchange$Network" "ended" "I", Cond.fieldLink RX5 189 "ClosExchange$Network" "dropped" "I", Cond.fieldLink RX5 192 "ClosExchange$Network" "moved" "I", Cond.fieldLink RX5 195 "ClosExchange$History" "count" "I", Cond.methodLink RL 121 yX6_total, Cond.instanceMethod yX6_total]
def wsL_law_r32 : List Cond := [Cond.selects RX6 yX6_total yX6_total, Cond.code yX6_total cX6_total 2 (some .int), Cond.methodLink RL 122 yX5_wouldMove, Cond.instanceMethod yX5_wouldMove, Cond.selects RX5 yX5_wouldMove yX5_wouldMove, Cond.code yX5_wouldMove cX5_wouldMove 4 (some .int), Cond.fieldLink RX5 201 "ClosExchange$Router" "chainLength" "I", Cond.methodLink RX5 198 yX3_tryCall, Cond.methodLink RL 125 yX6_wouldMove, Cond.instanceMethod yX6_wouldMove, Cond.selects RX6 yX6_wouldMove yX6_wouldMove, Cond.code yX6_wouldMove cX6_wouldMove 4 (some .int), Cond.methodLink RL 126 yX5_chainCall, Cond.instanceMethod yX5_chainCall, Cond.selects RX5 yX5_chainCall yX5_chainCall, Cond.code yX5_chainCall cX5_chainCall 5 (some .int), Cond.fieldLink RX5 204 "ClosExchange$Router" "chain" "LClosExchange$Row;", Cond.methodLink RL 129 yX6_chainCall, Cond.instanceMethod yX6_chainCall, Cond.selects RX6 yX6_chainCall yX6_chainCall, Cond.code yX6_chainCall cX6_chainCall 5 (some .int), Cond.methodLink RL 130 yX5_reason, Cond.instanceMethod yX5_reason, Cond.selects RX5 yX5_reason yX5_reason]
def wsL_law_r33 : List Cond := [Cond.code yX5_reason cX5_reason 5 (some .int), Cond.methodLink RX5 207 yX1_isInletBusy, Cond.methodLink RX5 210 yX1_isOutletBusy, Cond.methodLink RX5 213 yX1_boardOf, Cond.methodLink RL 133 yX6_reason, Cond.instanceMethod yX6_reason, Cond.selects RX6 yX6_reason yX6_reason, Cond.code yX6_reason cX6_reason 5 (some .int), Cond.methodLink RL 134 yX5_leastMiddles, Cond.instanceMethod yX5_leastMiddles, Cond.selects RX5 yX5_leastMiddles yX5_leastMiddles, Cond.code yX5_leastMiddles cX5_leastMiddles 1 (some .int), Cond.methodLink RX5 216 yX1_fullestBoard, Cond.methodLink RL 137 yX6_leastMiddles, Cond.instanceMethod yX6_leastMiddles, Cond.selects RX6 yX6_leastMiddles yX6_leastMiddles, Cond.code yX6_leastMiddles cX6_leastMiddles 1 (some .int), Cond.methodLink RL 138 yX5_wouldDrop, Cond.instanceMethod yX5_wouldDrop, Cond.selects RX5 yX5_wouldDrop yX5_wouldDrop, Cond.code yX5_wouldDrop cX5_wouldDrop 2 (some .int), Cond.methodLink RL 141 yX6_wouldDrop, Cond.instanceMethod yX6_wouldDrop, Cond.selects RX6 yX6_wouldDrop yX6_wouldDrop]
def wsL_law_r34 : List Cond := [Cond.code yX6_wouldDrop cX6_wouldDrop 2 (some .int), Cond.methodLink RL 142 yX5_reachable, Cond.instanceMethod yX5_reachable, Cond.selects RX5 yX5_reachable yX5_reachable, Cond.code yX5_reachable cX5_reachable 6 (some .int), Cond.methodLink RL 145 yX6_reachable, Cond.instanceMethod yX6_reachable, Cond.selects RX6 yX6_reachable yX6_reachable, Cond.code yX6_reachable cX6_reachable 6 (some .int)]
def wsL_law : List Cond := (wsL_law_r1 ++ (wsL_law_r2 ++ (wsL_law_r3 ++ (wsL_law_r4 ++ (wsL_law_r5 ++ (wsL_law_r6 ++ (wsL_law_r7 ++ (wsL_law_r8 ++ (wsL_law_r9 ++ (wsL_law_r10 ++ (wsL_law_r11 ++ (wsL_law_r12 ++ (wsL_law_r13 ++ (wsL_law_r14 ++ (wsL_law_r15 ++ (wsL_law_r16 ++ (wsL_law_r17 ++ (wsL_law_r18 ++ (wsL_law_r19 ++ (wsL_law_r20 ++ (wsL_law_r21 ++ (wsL_law_r22 ++ (wsL_law_r23 ++ (wsL_law_r24 ++ (wsL_law_r25 ++ (wsL_law_r26 ++ (wsL_law_r27 ++ (wsL_law_r28 ++ (wsL_law_r29 ++ (wsL_law_r30 ++ (wsL_law_r31 ++ (wsL_law_r32 ++ (wsL_law_r33 ++ wsL_law_r34))))))))))))))))))))))))))))))))) ++ wsX50 ++ wsX60 ++ wsX10 ++ wsX30 ++ wsX00 ++ wsX20 ++ wsX40 ++ ([] : List Cond)
abbrev vwCl : List vw_C := [(RX0, TX0, 3), (RX1, TX1, 16), (RX2, TX2, 6), (RX3, TX3, 5), (RX4, TX4, 1), (RX5, TX5, 8), (RX6, TX6, 12)]
end
section
set_option maxRecDepth 20000 in
theorem ggX4_init_J7_fill_53178 : GoodIn wsX4_init wsJ7_fill_53178 := goodIn_r _ [13] (by decide +kernel) (by decide +kernel)
set_option maxRecDepth 20000 in
theorem gX4_init_J7_fill_53178 : GoodIn wsX4_init (va_wsS RX4 21 yJ7_fill_53178 wsJ7_fill_53178) := goodIn_app (goodIn_of _ (by decide +kernel)) ggX4_init_J7_fill_53178
theorem dX4_init_0 : decode cX4_init 0 = .ok (.aload_n 0, 1) := by decide +kernel
theorem dX4_init_1 : decode cX4_init 1 = .ok (.invokespecial 3, 3) := by decide +kernel
theorem dX4_init_4 : decode cX4_init 4 = .ok (.aload_n 0, 1) := by decide +kernel
theorem dX4_init_5 : decode cX4_init 5 = .ok (.iload_n 1, 1) := by decide +kernel
theorem dX4_init_6 : decode cX4_init 6 = .ok (.iconst 0, 1) := by decide +kernel
theorem dX4_init_7 : decode cX4_init 7 = .ok (.invokestatic 9, 3) := by decide +kernel
theorem dX4_init_10 : decode cX4_init 10 = .ok (.newarray .int, 2) := by decide +kernel
theorem dX4_init_12 : decode cX4_init 12 = .ok (.putfield 15, 3) := by decide +kernel
theorem dX4_init_15 : decode cX4_init 15 = .ok (.aload_n 0, 1) := by decide +kernel
theorem dX4_init_16 : decode cX4_init 16 = .ok (.getfield 15, 3) := by decide +kernel
theorem dX4_init_19 : decode cX4_init 19 = .ok (.bipush (-6), 2) := by decide +kernel
theorem dX4_init_21 : decode cX4_init 21 = .ok (.invokestatic 21, 3) := by decide +kernel
theorem dX4_init_24 : decode cX4_init 24 = .ok (.return_, 1) := by decide +kernel
theorem dX4_get_0 : decode cX4_get 0 = .ok (.iload_n 1, 1) := by decide +kernel
theorem dX4_get_1 : decode cX4_get 1 = .ok (.ifCond .lt 21, 3) := by decide +kernel
theorem dX4_get_4 : decode cX4_get 4 = .ok (.iload_n 1, 1) := by decide +kernel
theorem dX4_get_5 : decode cX4_get 5 = .ok (.aload_n 0, 1) := by decide +kernel
theorem dX4_get_6 : decode cX4_get 6 = .ok (.getfield 15, 3) := by decide +kernel
theorem dX4_get_9 : decode cX4_get 9 = .ok (.arraylength, 1) := by decide +kernel
theorem dX4_get_10 : decode cX4_get 10 = .ok (.if_icmp .ge 12, 3) := by decide +kernel
theorem dX4_get_13 : decode cX4_get 13 = .ok (.aload_n 0, 1) := by decide +kernel
theorem dX4_get_14 : decode cX4_get 14 = .ok (.getfield 15, 3) := by decide +kernel
theorem dX4_get_17 : decode cX4_get 17 = .ok (.iload_n 1, 1) := by decide +kernel
theorem dX4_get_18 : decode cX4_get 18 = .ok (.iaload, 1) := by decide +kernel
theorem dX4_get_19 : decode cX4_get 19 = .ok (.goto 5, 3) := by decide +kernel
theorem dX4_get_22 : decode cX4_get 22 = .ok (.bipush (-6), 2) := by decide +kernel
theorem dX4_get_24 : decode cX4_get 24 = .ok (.ireturn, 1) := by decide +kernel
theorem dX4_set_0 : decode cX4_set 0 = .ok (.iload_n 1, 1) := by decide +kernel
theorem dX4_set_1 : decode cX4_set 1 = .ok (.ifCond .lt 19, 3) := by decide +kernel
theorem dX4_set_4 : decode cX4_set 4 = .ok (.iload_n 1, 1) := by decide +kernel
theorem dX4_set_5 : decode cX4_set 5 = .ok (.aload_n 0, 1) := by decide +kernel
theorem dX4_set_6 : decode cX4_set 6 = .ok (.getfield 15, 3) := by decide +kernel
theorem dX4_set_9 : decode cX4_set 9 = .ok (.arraylength, 1) := by decide +kernel
theorem dX4_set_10 : decode cX4_set 10 = .ok (.if_icmp .ge 10, 3) := by decide +kernel
theorem dX4_set_13 : decode cX4_set 13 = .ok (.aload_n 0, 1) := by decide +kernel
theorem dX4_set_14 : decode cX4_set 14 = .ok (.getfield 15, 3) := by decide +kernel
theorem dX4_set_17 : decode cX4_set 17 = .ok (.iload_n 1, 1) := by decide +kernel
theorem dX4_set_18 : decode cX4_set 18 = .ok (.iload_n 2, 1) := by decide +kernel
theorem dX4_set_19 : decode cX4_set 19 = .ok (.iastore, 1) := by decide +kernel
theorem dX4_set_20 : decode cX4_set 20 = .ok (.return_, 1) := by decide +kernel
set_option maxRecDepth 20000 in
theorem ggX4_empty_J7_fill_53178 : GoodIn wsX4_empty wsJ7_fill_53178 := goodIn_r _ [5] (by decide +kernel) (by decide +kernel)
set_option maxRecDepth 20000 in
theorem gX4_empty_J7_fill_53178 : GoodIn wsX4_empty (va_wsS RX4 21 yJ7_fill_53178 wsJ7_fill_53178) := goodIn_app (goodIn_of _ (by decide +kernel)) ggX4_empty_J7_fill_53178
theorem dX4_empty_0 : decode cX4_empty 0 = .ok (.aload_n 0, 1) := by decide +kernel
theorem dX4_empty_1 : decode cX4_empty 1 = .ok (.getfield 15, 3) := by decide +kernel
theorem dX4_empty_4 : decode cX4_empty 4 = .ok (.bipush (-6), 2) := by decide +kernel
theorem dX4_empty_6 : decode cX4_empty 6 = .ok (.invokestatic 21, 3) := by decide +kernel
theorem dX4_empty_9 : decode cX4_empty 9 = .ok (.return_, 1) := by decide +kernel
theorem dX4_copyFrom_0 : decode cX4_copyFrom 0 = .ok (.aload_n 1, 1) := by decide +kernel
theorem dX4_copyFrom_1 : decode cX4_copyFrom 1 = .ok (.getfield 15, 3) := by decide +kernel
theorem dX4_copyFrom_4 : decode cX4_copyFrom 4 = .ok (.iconst 0, 1) := by decide +kernel
theorem dX4_copyFrom_5 : decode cX4_copyFrom 5 = .ok (.aload_n 0, 1) := by decide +kernel
theorem dX4_copyFrom_6 : decode cX4_copyFrom 6 = .ok (.getfield 15, 3) := by decide +kernel
theorem dX4_copyFrom_9 : decode cX4_copyFrom 9 = .ok (.iconst 0, 1) := by decide +kernel
theorem dX4_copyFrom_10 : decode cX4_copyFrom 10 = .ok (.aload_n 0, 1) := by decide +kernel
theorem dX4_copyFrom_11 : decode cX4_copyFrom 11 = .ok (.getfield 15, 3) := by decide +kernel
theorem dX4_copyFrom_14 : decode cX4_copyFrom 14 = .ok (.arraylength, 1) := by decide +kernel
theorem dX4_copyFrom_15 : decode cX4_copyFrom 15 = .ok (.aload_n 1, 1) := by decide +kernel
theorem dX4_copyFrom_16 : decode cX4_copyFrom 16 = .ok (.getfield 15, 3) := by decide +kernel
theorem dX4_copyFrom_19 : decode cX4_copyFrom 19 = .ok (.arraylength, 1) := by decide +kernel
theorem dX4_copyFrom_20 : decode cX4_copyFrom 20 = .ok (.invokestatic 27, 3) := by decide +kernel
theorem dX4_copyFrom_23 : decode cX4_copyFrom 23 = .ok (.invokestatic 30, 3) := by decide +kernel
theorem dX4_copyFrom_26 : decode cX4_copyFrom 26 = .ok (.return_, 1) := by decide +kernel
theorem dJ6_bitCount_0f7a4_0 : decode cJ6_bitCount_0f7a4 0 = .ok (.iload_n 0, 1) := by decide +kernel
theorem dJ6_bitCount_0f7a4_1 : decode cJ6_bitCount_0f7a4 1 = .ok (.iload_n 0, 1) := by decide +kernel
theorem dJ6_bitCount_0f7a4_2 : decode cJ6_bitCount_0f7a4 2 = .ok (.iconst 1, 1) := by decide +kernel
theorem dJ6_bitCount_0f7a4_3 : decode cJ6_bitCount_0f7a4 3 = .ok (.iushr, 1) := by decide +kernel
theorem dJ6_bitCount_0f7a4_4 : decode cJ6_bitCount_0f7a4 4 = .ok (.ldc_w 265, 3) := by decide +kernel
theorem dJ6_bitCount_0f7a4_7 : decode cJ6_bitCount_0f7a4 7 = .ok (.iand, 1) := by decide +kernel
theorem dJ6_bitCount_0f7a4_8 : decode cJ6_bitCount_0f7a4 8 = .ok (.isub, 1) := by decide +kernel
theorem dJ6_bitCount_0f7a4_9 : decode cJ6_bitCount_0f7a4 9 = .ok (.istore_n 0, 1) := by decide +kernel
theorem dJ6_bitCount_0f7a4_10 : decode cJ6_bitCount_0f7a4 10 = .ok (.iload_n 0, 1) := by decide +kernel
theorem dJ6_bitCount_0f7a4_11 : decode cJ6_bitCount_0f7a4 11 = .ok (.ldc_w 266, 3) := by decide +kernel
theorem dJ6_bitCount_0f7a4_14 : decode cJ6_bitCount_0f7a4 14 = .ok (.iand, 1) := by decide +kernel
theorem dJ6_bitCount_0f7a4_15 : decode cJ6_bitCount_0f7a4 15 = .ok (.iload_n 0, 1) := by decide +kernel
theorem dJ6_bitCount_0f7a4_16 : decode cJ6_bitCount_0f7a4 16 = .ok (.iconst 2, 1) := by decide +kernel
theorem dJ6_bitCount_0f7a4_17 : decode cJ6_bitCount_0f7a4 17 = .ok (.iushr, 1) := by decide +kernel
theorem dJ6_bitCount_0f7a4_18 : decode cJ6_bitCount_0f7a4 18 = .ok (.ldc_w 266, 3) := by decide +kernel
theorem dJ6_bitCount_0f7a4_21 : decode cJ6_bitCount_0f7a4 21 = .ok (.iand, 1) := by decide +kernel
theorem dJ6_bitCount_0f7a4_22 : decode cJ6_bitCount_0f7a4 22 = .ok (.iadd, 1) := by decide +kernel
theorem dJ6_bitCount_0f7a4_23 : decode cJ6_bitCount_0f7a4 23 = .ok (.istore_n 0, 1) := by decide +kernel
theorem dJ6_bitCount_0f7a4_24 : decode cJ6_bitCount_0f7a4 24 = .ok (.iload_n 0, 1) := by decide +kernel
theorem dJ6_bitCount_0f7a4_25 : decode cJ6_bitCount_0f7a4 25 = .ok (.iload_n 0, 1) := by decide +kernel
theorem dJ6_bitCount_0f7a4_26 : decode cJ6_bitCount_0f7a4 26 = .ok (.iconst 4, 1) := by decide +kernel
theorem dJ6_bitCount_0f7a4_27 : decode cJ6_bitCount_0f7a4 27 = .ok (.iushr, 1) := by decide +kernel
theorem dJ6_bitCount_0f7a4_28 : decode cJ6_bitCount_0f7a4 28 = .ok (.iadd, 1) := by decide +kernel
theorem dJ6_bitCount_0f7a4_29 : decode cJ6_bitCount_0f7a4 29 = .ok (.ldc_w 267, 3) := by decide +kernel
theorem dJ6_bitCount_0f7a4_32 : decode cJ6_bitCount_0f7a4 32 = .ok (.iand, 1) := by decide +kernel
theorem dJ6_bitCount_0f7a4_33 : decode cJ6_bitCount_0f7a4 33 = .ok (.istore_n 0, 1) := by decide +kernel
theorem dJ6_bitCount_0f7a4_34 : decode cJ6_bitCount_0f7a4 34 = .ok (.iload_n 0, 1) := by decide +kernel
theorem dJ6_bitCount_0f7a4_35 : decode cJ6_bitCount_0f7a4 35 = .ok (.iload_n 0, 1) := by decide +kernel
theorem dJ6_bitCount_0f7a4_36 : decode cJ6_bitCount_0f7a4 36 = .ok (.bipush 8, 2) := by decide +kernel
theorem dJ6_bitCount_0f7a4_38 : decode cJ6_bitCount_0f7a4 38 = .ok (.iushr, 1) := by decide +kernel
theorem dJ6_bitCount_0f7a4_39 : decode cJ6_bitCount_0f7a4 39 = .ok (.iadd, 1) := by decide +kernel
theorem dJ6_bitCount_0f7a4_40 : decode cJ6_bitCount_0f7a4 40 = .ok (.istore_n 0, 1) := by decide +kernel
theorem dJ6_bitCount_0f7a4_41 : decode cJ6_bitCount_0f7a4 41 = .ok (.iload_n 0, 1) := by decide +kernel
theorem dJ6_bitCount_0f7a4_42 : decode cJ6_bitCount_0f7a4 42 = .ok (.iload_n 0, 1) := by decide +kernel
theorem dJ6_bitCount_0f7a4_43 : decode cJ6_bitCount_0f7a4 43 = .ok (.bipush 16, 2) := by decide +kernel
theorem dJ6_bitCount_0f7a4_45 : decode cJ6_bitCount_0f7a4 45 = .ok (.iushr, 1) := by decide +kernel
theorem dJ6_bitCount_0f7a4_46 : decode cJ6_bitCount_0f7a4 46 = .ok (.iadd, 1) := by decide +kernel
theorem dJ6_bitCount_0f7a4_47 : decode cJ6_bitCount_0f7a4 47 = .ok (.istore_n 0, 1) := by decide +kernel
theorem dJ6_bitCount_0f7a4_48 : decode cJ6_bitCount_0f7a4 48 = .ok (.iload_n 0, 1) := by decide +kernel
theorem dJ6_bitCount_0f7a4_49 : decode cJ6_bitCount_0f7a4 49 = .ok (.bipush 63, 2) := by decide +kernel
theorem dJ6_bitCount_0f7a4_51 : decode cJ6_bitCount_0f7a4 51 = .ok (.iand, 1) := by decide +kernel
theorem dJ6_bitCount_0f7a4_52 : decode cJ6_bitCount_0f7a4 52 = .ok (.ireturn, 1) := by decide +kernel
theorem dJ9_max_7cf53_0 : decode cJ9_max_7cf53 0 = .ok (.iload_n 0, 1) := by decide +kernel
theorem dJ9_max_7cf53_1 : decode cJ9_max_7cf53 1 = .ok (.iload_n 1, 1) := by decide +kernel
theorem dJ9_max_7cf53_2 : decode cJ9_max_7cf53 2 = .ok (.if_icmp .lt 7, 3) := by decide +kernel
theorem dJ9_max_7cf53_5 : decode cJ9_max_7cf53 5 = .ok (.iload_n 0, 1) := by decide +kernel
theorem dJ9_max_7cf53_6 : decode cJ9_max_7cf53 6 = .ok (.goto 4, 3) := by decide +kernel
theorem dJ9_max_7cf53_9 : decode cJ9_max_7cf53 9 = .ok (.iload_n 1, 1) := by decide +kernel
theorem dJ9_max_7cf53_10 : decode cJ9_max_7cf53 10 = .ok (.ireturn, 1) := by decide +kernel
theorem dJ9_min_7cf53_0 : decode cJ9_min_7cf53 0 = .ok (.iload_n 0, 1) := by decide +kernel
theorem dJ9_min_7cf53_1 : decode cJ9_min_7cf53 1 = .ok (.iload_n 1, 1) := by decide +kernel
theorem dJ9_min_7cf53_2 : decode cJ9_min_7cf53 2 = .ok (.if_icmp .gt 7, 3) := by decide +kernel
theorem dJ9_min_7cf53_5 : decode cJ9_min_7cf53 5 = .ok (.iload_n 0, 1) := by decide +kernel
theorem dJ9_min_7cf53_6 : decode cJ9_min_7cf53 6 = .ok (.goto 4, 3) := by decide +kernel
theorem dJ9_min_7cf53_9 : decode cJ9_min_7cf53 9 = .ok (.iload_n 1, 1) := by decide +kernel
theorem dJ9_min_7cf53_10 : decode cJ9_min_7cf53 10 = .ok (.ireturn, 1) := by decide +kernel
theorem dJ7_fill_53178_0 : decode cJ7_fill_53178 0 = .ok (.iconst 0, 1) := by decide +kernel
theorem dJ7_fill_53178_1 : decode cJ7_fill_53178 1 = .ok (.istore_n 2, 1) := by decide +kernel
theorem dJ7_fill_53178_2 : decode cJ7_fill_53178 2 = .ok (.aload_n 0, 1) := by decide +kernel
theorem dJ7_fill_53178_3 : decode cJ7_fill_53178 3 = .ok (.arraylength, 1) := by decide +kernel
theorem dJ7_fill_53178_4 : decode cJ7_fill_53178 4 = .ok (.istore_n 3, 1) := by decide +kernel
theorem dJ7_fill_53178_5 : decode cJ7_fill_53178 5 = .ok (.iload_n 2, 1) := by decide +kernel
theorem dJ7_fill_53178_6 : decode cJ7_fill_53178 6 = .ok (.iload_n 3, 1) := by decide +kernel
theorem dJ7_fill_53178_7 : decode cJ7_fill_53178 7 = .ok (.if_icmp .ge 13, 3) := by decide +kernel
theorem dJ7_fill_53178_10 : decode cJ7_fill_53178 10 = .ok (.aload_n 0, 1) := by decide +kernel
theorem dJ7_fill_53178_11 : decode cJ7_fill_53178 11 = .ok (.iload_n 2, 1) := by decide +kernel
theorem dJ7_fill_53178_12 : decode cJ7_fill_53178 12 = .ok (.iload_n 1, 1) := by decide +kernel
theorem dJ7_fill_53178_13 : decode cJ7_fill_53178 13 = .ok (.iastore, 1) := by decide +kernel
theorem dJ7_fill_53178_14 : decode cJ7_fill_53178 14 = .ok (.iinc 2 1, 3) := by decide +kernel
theorem dJ7_fill_53178_17 : decode cJ7_fill_53178 17 = .ok (.goto (-12), 3) := by decide +kernel
theorem dJ7_fill_53178_20 : decode cJ7_fill_53178 20 = .ok (.return_, 1) := by decide +kernel
theorem dX5_within_0 : decode cX5_within 0 = .ok (.iload_n 0, 1) := by decide +kernel
theorem dX5_within_1 : decode cX5_within 1 = .ok (.iload_n 1, 1) := by decide +kernel
theorem dX5_within_2 : decode cX5_within 2 = .ok (.if_icmp .lt 12, 3) := by decide +kernel
theorem dX5_within_5 : decode cX5_within 5 = .ok (.iload_n 0, 1) := by decide +kernel
theorem dX5_within_6 : decode cX5_within 6 = .ok (.iload_n 2, 1) := by decide +kernel
theorem dX5_within_7 : decode cX5_within 7 = .ok (.if_icmp .gt 7, 3) := by decide +kernel
theorem dX5_within_10 : decode cX5_within 10 = .ok (.iconst 1, 1) := by decide +kernel
theorem dX5_within_11 : decode cX5_within 11 = .ok (.goto 4, 3) := by decide +kernel
theorem dX5_within_14 : decode cX5_within 14 = .ok (.iconst 0, 1) := by decide +kernel
theorem dX5_within_15 : decode cX5_within 15 = .ok (.ireturn, 1) := by decide +kernel
theorem dX5_hasBit_0 : decode cX5_hasBit 0 = .ok (.iload_n 0, 1) := by decide +kernel
theorem dX5_hasBit_1 : decode cX5_hasBit 1 = .ok (.iconst 1, 1) := by decide +kernel
theorem dX5_hasBit_2 : decode cX5_hasBit 2 = .ok (.iload_n 1, 1) := by decide +kernel
theorem dX5_hasBit_3 : decode cX5_hasBit 3 = .ok (.ishl, 1) := by decide +kernel
theorem dX5_hasBit_4 : decode cX5_hasBit 4 = .ok (.iand, 1) := by decide +kernel
theorem dX5_hasBit_5 : decode cX5_hasBit 5 = .ok (.ifCond .eq 7, 3) := by decide +kernel
theorem dX5_hasBit_8 : decode cX5_hasBit 8 = .ok (.iconst 1, 1) := by decide +kernel
theorem dX5_hasBit_9 : decode cX5_hasBit 9 = .ok (.goto 4, 3) := by decide +kernel
theorem dX5_hasBit_12 : decode cX5_hasBit 12 = .ok (.iconst 0, 1) := by decide +kernel
theorem dX5_hasBit_13 : decode cX5_hasBit 13 = .ok (.ireturn, 1) := by decide +kernel
theorem dX5_link_0 : decode cX5_link 0 = .ok (.iload_n 0, 1) := by decide +kernel
theorem dX5_link_1 : decode cX5_link 1 = .ok (.bipush 8, 2) := by decide +kernel
theorem dX5_link_3 : decode cX5_link 3 = .ok (.imul, 1) := by decide +kernel
theorem dX5_link_4 : decode cX5_link 4 = .ok (.iload_n 1, 1) := by decide +kernel
theorem dX5_link_5 : decode cX5_link 5 = .ok (.iadd, 1) := by decide +kernel
theorem dX5_link_6 : decode cX5_link 6 = .ok (.ireturn, 1) := by decide +kernel
end
section
/-! helpers: a method's start and end, calls that change nothing, calls that change their own cells; all by va_ rows of the kit -/
/-- what stays true of the machine: classes, the two array classes, the nest mates' links -/
def KN (D : va_G) (cI cN : ClassId) (U : State) : Prop := va_K D vwCl [(cI, .int), (cN, .object RX1)] U ∧ va_Nw (.methodLinkNest RX1 81 yX5_link RX5) U ∧ va_Nw (.methodLinkNest RX3 64 yX5_hasBit RX5) U ∧ va_Nw (.methodLinkNest RX3 161 yX5_link RX5) U
theorem KN.warm {D : va_G} {cI cN : ClassId} {s U : State} (hW : s.WarmedH U.vm) (h : KN D cI cN s) : KN D cI cN U := ⟨va_K.moved hW.alike h.1, va_Nw.warmM hW h.2.1, va_Nw.warmM hW h.2.2.1, va_Nw.warmM hW h.2.2.2⟩
theorem KN.same {D : va_G} {cI cN : ClassId} {s U : State} (hv : s.vm = U.vm) (h : KN D cI cN s) : KN D cI cN U := ⟨va_K.moved (hv ▸ Vm.Alike.refl s.vm) h.1, h.2.1.same rfl hv, h.2.2.1.same rfl hv, h.2.2.2.same rfl hv⟩
/-- a start that a method only reads, and one that it writes -/
def PreP (D : va_G) (cI cN : ClassId) (ws : va_W) (sz : Nat) (U : State) : Prop := U.heap.size = sz ∧ va_P D vwCl ws U.heap ∧ KN D cI cN U
def PreW (D : va_G) (cI cN : ClassId) (ws : va_W) (sz : Nat) (U : State) : Prop := U.heap.size = sz ∧ va_P D vwCl ws U.heap ∧ KN D cI cN U ∧ va_D (fun _ => True) ws
def nwA (sz : Nat) : Nat → Prop := fun q => sz ≤ q
def PostW (D : va_G) (w1 : va_W) (A : Nat → Prop) (t : State) : Prop := va_P D vwCl w1 t.heap ∧ va_D A w1
abbrev QPi (r0 : Int32) (sz : Nat) : Array Value → State → Outcome → State → Prop := va_Qi (fun r (_ : Unit) => r = r0) (fun _ _ => True) (nwA sz)
abbrev QPr (a0 : Nat) (sz : Nat) : Array Value → State → Outcome → State → Prop := va_Qr (fun (_ : Unit) => True) (fun _ a _ => a = a0) (nwA sz)
abbrev QWi (D : va_G) (r0 : Int32) (w1 wc : va_W) (sz : Nat) : Array Value → State → Outcome → State → Prop := va_Qi (fun r (_ : Unit) => r = r0) (fun _ t => PostW D w1 (va_A wc sz) t) (va_A wc sz)
abbrev QWv (D : va_G) (w1 wc : va_W) (sz : Nat) : Array Value → State → Outcome → State → Prop := va_Qv (fun (_ : Unit) => True) (fun _ t => PostW D w1 (va_A wc sz) t) (va_A wc sz)
/-- contracts -/
abbrev CtP (l : Launch) (D : va_G) (cI cN : ClassId) (y : MethodName) (wy : List Cond) (rm : Room) (av : List Value) (wc : va_W) (sz : Nat) (r0 : Int32) : Prop := Met l y wy rm (va_Pc av (PreP D cI cN wc sz)) (QPi r0 sz) 0 0 (nwA sz)
abbrev CtR (l : Launch) (D : va_G) (cI cN : ClassId) (y : MethodName) (wy : List Cond) (rm : Room) (av : List Value) (wc : va_W) (sz : Nat) (a0 : Nat) : Prop := Met l y wy rm (va_Pc av (PreP D cI cN wc sz)) (QPr a0 sz) 0 0 (nwA sz)
abbrev CtI (l : Launch) (D : va_G) (cI cN : ClassId) (y : MethodName) (wy : List Cond) (rm : Room) (mc ms : Nat) (av : List Value) (wc : va_W) (sz : Nat) (r0 : Int32) (w1 : va_W) : Prop := Met l y wy rm (va_Pc av (PreW D cI cN wc sz)) (QWi D r0 w1 wc sz) mc ms (va_A wc sz)
abbrev CtV (l : Launch) (D : va_G) (cI cN : ClassId) (y : MethodName) (wy : List Cond) (rm : Room) (mc ms : Nat) (av : List Value) (wc : va_W) (sz : Nat) (w1 : va_W) : Prop := Met l y wy rm (va_Pc av (PreW D cI cN wc sz)) (QWv D w1 wc sz) mc ms (va_A wc sz)
section HA
variable {l : Launch} {D : va_G} {cI cN : ClassId} {y : MethodName} {wy wy' : List Cond} {rm : Room} {av : List Value} {wc w1 : va_W} {sz a0 mc ms : Nat} {r0 : Int32} {cc : ByteArray} {maxL : Nat} {ret : Option FieldType}
/-- the start of a method that only reads, with an int answer (also boolean: hn) -/
theorem mP (hy : plainName y.cls = true) (hw : wy = Cond.code y cc maxL ret :: wy') {ty : FieldType} (hret : ret = some ty) (hlen : (lg_sl av).length ≤ maxL)
    (body : ∀ (p : Program) (e : Env) (s : State) (m : MethodId) (args : Array Value) (below : List Frame) (meth : Method) (c : Code) (Q : State → Prop), CallFix p m c cc maxL s args wy y.cls → KN D cI cN s → va_P D vwCl wc s.heap → va_S (nwA s.heap.size) s.heap s.heap [] →
      (∀ (H : Heap) (locs : List Loc) (ls : Array Slot) (pc : Nat), decode cc pc = .ok (.ireturn, 1) → narrow ty (.int r0) = .int r0 → va_S (nwA s.heap.size) s.heap H locs → W p l e (headSpec wy rm).room s m args below meth c H locs 0 0 Q (F0 m pc ls [.int r0])) →
      ∀ ls : Array Slot, lv_has ls maxL (lv_args 0 av) → W p l e (headSpec wy rm).room s m args below meth c s.heap [] 0 0 Q (F0 m 0 ls [])) : CtP l D cI cN y wy rm av wc sz r0 := by
  refine Met.ofW (cc := cc) (maxL := maxL) (ret := ret) hy hw ?_
  intro p e s m args below meth c s₁ B hml hv
  obtain ⟨rfl, hsz, hP, hK⟩ := hv
  have hlocks := B.notSynchronized
  subst hsz
  rw [lg_entry_eq]
  refine body p e s m _ below meth c _ ⟨B.exec, B.bytes, hml, findClass_of_methodNamed B.named, atoms_spec (ws := wy) B.pre⟩ hK hP va_S.rf ?_ _ (lv_entry av hlen)
  intro H locs ls pc hdg hn hS
  exact W.zret B.exec B.bytes (B.returns.trans hret) hn (fun t ht _ => ⟨⟨r0, (), rfl, rfl, trivial⟩, hS.F ht⟩) hS.2.2 hdg
theorem mW (hy : plainName y.cls = true) (hw : wy = Cond.code y cc maxL ret :: wy') {ty : FieldType} (hret : ret = some ty) (hlen : (lg_sl av).length ≤ maxL)
    (body : ∀ (p : Program) (e : Env) (s : State) (m : MethodId) (args : Array Value) (below : List Frame) (meth : Method) (c : Code) (Q : State → Prop) (A : Nat → Prop), CallFix p m c cc maxL s args wy y.cls → KN D cI cN s → va_P D vwCl wc s.heap → va_D A wc → va_S A s.heap s.heap [] → (∀ q : Nat, s.heap.size ≤ q → A q) →
      (∀ (H : Heap) (locs : List Loc) (ls : Array Slot) (pc : Nat), decode cc pc = .ok (.ireturn, 1) → narrow ty (.int r0) = .int r0 → va_P D vwCl w1 H → va_D A w1 → va_S A s.heap H locs → W p l e (headSpec wy rm).room s m args below meth c H locs mc ms Q (F0 m pc ls [.int r0])) →
      ∀ ls : Array Slot, lv_has ls maxL (lv_args 0 av) → W p l e (headSpec wy rm).room s m args below meth c s.heap [] 0 0 Q (F0 m 0 ls [])) : CtI l D cI cN y wy rm mc ms av wc sz r0 w1 := by
  refine Met.ofW (cc := cc) (maxL := maxL) (ret := ret) hy hw ?_
  intro p e s m args below meth c s₁ B hml hv
  obtain ⟨rfl, hsz, hP, hK, hD0⟩ := hv
  have hlocks := B.notSynchronized
  subst hsz
  rw [lg_entry_eq]
  refine body p e s m _ below meth c _ (va_A wc s.heap.size) ⟨B.exec, B.bytes, hml, findClass_of_methodNamed B.named, atoms_spec (ws := wy) B.pre⟩ hK hP hD0.self va_S.rf (fun q h => Or.inr h) ?_ _ (lv_entry av hlen)
  intro H locs ls pc hdg hn hP1 hD1 hS
  exact W.zret B.exec B.bytes (B.returns.trans hret) hn (fun t ht _ => ⟨⟨r0, (), rfl, rfl, by rw [ht]; exact hP1, hD1⟩, hS.F ht⟩) hS.2.2 hdg
theorem mV (hy : plainName y.cls = true) (hw : wy = Cond.code y cc maxL none :: wy') (hlen : (lg_sl av).length ≤ maxL)
    (body : ∀ (p : Program) (e : Env) (s : State) (m : MethodId) (args : Array Value) (below : List Frame) (meth : Method) (c : Code) (Q : State → Prop) (A : Nat → Prop), CallFix p m c cc maxL s args wy y.cls → meth.name = y.name → KN D cI cN s → va_P D vwCl wc s.heap → va_D A wc → va_S A s.heap s.heap [] → (∀ q : Nat, s.heap.size ≤ q → A q) →
      (∀ (H : Heap) (locs : List Loc) (ls : Array Slot) (pc : Nat), decode cc pc = .ok (.return_, 1) → va_P D vwCl w1 H → va_D A w1 → va_S A s.heap H locs → W p l e (headSpec wy rm).room s m args below meth c H locs mc ms Q (F0 m pc ls [])) →
      ∀ ls : Array Slot, lv_has ls maxL (lv_args 0 av) → W p l e (headSpec wy rm).room s m args below meth c s.heap [] 0 0 Q (F0 m 0 ls [])) : CtV l D cI cN y wy rm mc ms av wc sz w1 := by
  refine Met.ofW (cc := cc) (maxL := maxL) (ret := none) hy hw ?_
  intro p e s m args below meth c s₁ B hml hv
  obtain ⟨rfl, hsz, hP, hK, hD0⟩ := hv
  have hlocks := B.notSynchronized
  subst hsz
  rw [lg_entry_eq]
  refine body p e s m _ below meth c _ (va_A wc s.heap.size) ⟨B.exec, B.bytes, hml, findClass_of_methodNamed B.named, atoms_spec (ws := wy) B.pre⟩ (name_of_methodNamed B.named B.method).1 hK hP hD0.self va_S.rf (fun q h => Or.inr h) ?_ _ (lv_entry av hlen)
  intro H locs ls pc hdg hP1 hD1 hS
  exact W.vret B.exec B.bytes B.returns (fun t ht _ => ⟨⟨(), rfl, trivial, by rw [ht]; exact hP1, hD1⟩, hS.F ht⟩) hS.2.2 hdg
theorem mR (hy : plainName y.cls = true) (hw : wy = Cond.code y cc maxL ret :: wy') {C : String} (hret : ret = some (.object C)) (hlen : (lg_sl av).length ≤ maxL)
    (body : ∀ (p : Program) (e : Env) (s : State) (m : MethodId) (args : Array Value) (below : List Frame) (meth : Method) (c : Code) (Q : State → Prop), CallFix p m c cc maxL s args wy y.cls → KN D cI cN s → va_P D vwCl wc s.heap → va_S (nwA s.heap.size) s.heap s.heap [] →
      (∀ (H : Heap) (locs : List Loc) (ls : Array Slot) (pc : Nat), decode cc pc = .ok (.areturn, 1) → va_S (nwA s.heap.size) s.heap H locs → W p l e (headSpec wy rm).room s m args below meth c H locs 0 0 Q (F0 m pc ls [.ref a0])) →
      ∀ ls : Array Slot, lv_has ls maxL (lv_args 0 av) → W p l e (headSpec wy rm).room s m args below meth c s.heap [] 0 0 Q (F0 m 0 ls [])) : CtR l D cI cN y wy rm av wc sz a0 := by
  refine Met.ofW (cc := cc) (maxL := maxL) (ret := ret) hy hw ?_
  intro p e s m args below meth c s₁ B hml hv
  obtain ⟨rfl, hsz, hP, hK⟩ := hv
  have hlocks := B.notSynchronized
  subst hsz
  rw [lg_entry_eq]
  refine body p e s m _ below meth c _ ⟨B.exec, B.bytes, hml, findClass_of_methodNamed B.named, atoms_spec (ws := wy) B.pre⟩ hK hP va_S.rf ?_ _ (lv_entry av hlen)
  intro H locs ls pc hdg hS
  exact W.aret (v := .ref a0) B.exec B.bytes (B.returns.trans hret) (Or.inl ⟨C, rfl⟩) (Or.inr ⟨a0, rfl⟩) (fun t ht _ => ⟨⟨(), a0, rfl, trivial, rfl⟩, hS.F ht⟩) hS.2.2 hdg
end HA
theorem blP {av : List Value} {D : va_G} {cI cN : ClassId} {ws : va_W} {sz : Nat} : FrameBlind (va_Pc av (PreP D cI cN ws sz)) := fun a U g mk q => by
  obtain ⟨q0, q1, qP, qK⟩ := q
  exact ⟨q0, q1, qP, KN.same (s := U) (U := U.calling g mk a) rfl qK⟩
theorem blW {av : List Value} {D : va_G} {cI cN : ClassId} {ws : va_W} {sz : Nat} : FrameBlind (va_Pc av (PreW D cI cN ws sz)) := fun a U g mk q => by
  obtain ⟨q0, q1, qP, qK, qD⟩ := q
  exact ⟨q0, q1, qP, KN.same (s := U) (U := U.calling g mk a) rfl qK, qD⟩
theorem nw_keep {D : va_G} {ws : va_W} {H H1 : Heap} (hP : va_P D vwCl ws H) (hk : ∀ q : Nat, q < H.size → ¬ nwA H.size q → H1[q]? = H[q]?) : va_P D vwCl ws H1 :=
  hP.kept fun k q hq => hk q.1 (hP k q hq).lt (Nat.not_le.mpr (hP k q hq).lt)
/-- behind a call that wrote its own cells: the caller's world, in the caller's order -/
theorem back_w {D : va_G} {A0 : Nat → Prop} {ws wc wr w1 wf : va_W} {H H1 : Heap} (hP : va_P D vwCl ws H) (hD : va_D A0 ws) (isC isR isF : List Nat) (hC : isC.map (fun i => ws[i]?) = wc.map some) (hR : isR.map (fun i => ws[i]?) = wr.map some) (hn : va_nd isR = true) (hdis : ∀ i ∈ isR, i ∉ isC) (hFi : isF.map (fun i => (wr ++ w1)[i]?) = wf.map some) (hnF : va_nd isF = true)
    (hk : ∀ q : Nat, q < H.size → ¬ va_A wc H.size q → H1[q]? = H[q]?) (hF : ∀ q, va_A wc H.size q → A0 q) (hP1 : va_P D vwCl w1 H1) (hD1 : va_D (va_A wc H.size) w1) : va_P D vwCl wf H1 ∧ va_D A0 wf := by
  obtain ⟨h1, h2⟩ := va_join (wr := wr) (w1 := w1) hP hD isC isR hC hR hn hdis hk hF hP1 hD1
  refine ⟨h1.sub isF ?_, h2.sub isF hnF hFi⟩
  have : isF.filterMap (fun i => (wr ++ w1)[i]?) = (isF.map (fun i => (wr ++ w1)[i]?)).filterMap id := by rw [List.filterMap_map]; rfl
  rw [this, hFi]
  rw [List.filterMap_map]
  simp
section HC
variable {p : Program} {l : Launch} {e : Env} {R : Room} {s : State} {m : MethodId} {args : Array Value} {below : List Frame} {meth : Method} {c : Code} {H : Heap} {locs : List Loc} {cells slots : Nat} {Q : State → Prop}
variable {pc : Nat} {ls : Array Slot} {rest st0 As : List Value} {A0 : Nat → Prop} {H0 : Heap} {mc ms nL index n maxL : Nat} {D : va_G} {cI cN : ClassId} {cc bytes : ByteArray} {y : MethodName} {ret : Option FieldType} {wy Ts : List Cond} {rm : Room} {own C : String} {b : Nat} {r0 : Int32} {a0 : Nat} {ws wc wr w1 wf : va_W} {ci q0 : Nat} {fs : List Value} {T : u_T} {N : Nat}
/-- a virtual call that only reads: an int comes -/
theorem cPi (S : CallFix p m c cc nL s args Ts own) (hM : CtP l D cI cN y wy rm (.ref b :: As) wc H.size r0) (cw : CallW R s args own C index y bytes maxL ret wy rm 0 0 n) (hK : KN D cI cN s) (hP : va_P D vwCl ws H) (hS : va_S A0 H0 H locs) (hA : ∀ q, H0.size ≤ q → A0 q)
    (is : List Nat) (hsub : is.filterMap (fun i => ws[i]?) = wc) (he : ws[q0]? = some (b, .inr (ci, fs))) (hc : vwCl[ci]? = some (C, T, N)) (hn : As.length = n) (hsz : ls.size = nL) (hst : st0 = As.reverse ++ .ref b :: rest) (hroom : (rest.map fun v => v.category).sum ≤ 8) (hdg : decode cc pc = .ok (.invokevirtual index, 3)) (hf : cells ≤ R.cells ∧ slots ≤ R.slots)
    (kk : ∀ (H1 : Heap) (locs1 : List Loc), va_P D vwCl ws H1 → va_S A0 H0 H1 locs1 → W p l e R s m args below meth c H1 locs1 cells slots Q (F0 m (pc + 3) ls (.int r0 :: rest))) : W p l e R s m args below meth c H locs cells slots Q (F0 m pc ls st0) := by
  have hPc : va_P D vwCl wc H := hP.sub is hsub
  refine va_calli (va_runV (As := As) (rest := rest) S hM cw ⟨blP, va_recv hK.1 hP hc he, fun U hU hW => ⟨rfl, by rw [hU], by rw [hU]; exact hPc, hK.warm hW⟩⟩ rfl hn hsz hst (lv_room hroom) hdg hf) hS (fun q _ h => hA q (Nat.le_trans hS.1 h)) (fun q h => hA q (Nat.le_trans hS.1 h)) (fun r u t H1 locs1 ht hvm hw hB hz1 hk1 hS1 => ?_)
  subst hw
  exact kk H1 locs1 (nw_keep hP hk1) hS1
/-- a static call of its own class (or of another one's static member by a link) that only reads -/
theorem cSi (S : CallFix p m c cc nL s args Ts own) (hM : CtP l D cI cN y wy rm As wc H.size r0) (cw : CallB R s args own index y bytes maxL ret wy rm 0 0 n ∧ (Cond.static y).before args s = true) (hK : KN D cI cN s) (hP : va_P D vwCl ws H) (hS : va_S A0 H0 H locs) (hA : ∀ q, H0.size ≤ q → A0 q)
    (is : List Nat) (hsub : is.filterMap (fun i => ws[i]?) = wc) (hn : As.length = n) (hsz : ls.size = nL) (hst : st0 = As.reverse ++ rest) (hroom : (rest.map fun v => v.category).sum ≤ 8) (hdg : decode cc pc = .ok (.invokestatic index, 3)) (hf : cells ≤ R.cells ∧ slots ≤ R.slots)
    (kk : ∀ (H1 : Heap) (locs1 : List Loc), va_P D vwCl ws H1 → va_S A0 H0 H1 locs1 → W p l e R s m args below meth c H1 locs1 cells slots Q (F0 m (pc + 3) ls (.int r0 :: rest))) : W p l e R s m args below meth c H locs cells slots Q (F0 m pc ls st0) := by
  have hPc : va_P D vwCl wc H := hP.sub is hsub
  refine va_calli (va_runS (As := As) (rest := rest) S hM cw ⟨blP, fun U hU hW => ⟨rfl, by rw [hU], by rw [hU]; exact hPc, hK.warm hW⟩⟩ rfl hn hsz hst (lv_room hroom) hdg hf) hS (fun q _ h => hA q (Nat.le_trans hS.1 h)) (fun q h => hA q (Nat.le_trans hS.1 h)) (fun r u t H1 locs1 ht hvm hw hB hz1 hk1 hS1 => ?_)
  subst hw
  exact kk H1 locs1 (nw_keep hP hk1) hS1
/-- a static call of a nest mate that only reads -/
theorem cNi {host : String} (S : CallFix p m c cc nL s args Ts own) (hM : CtP l D cI cN y wy rm As wc H.size r0) (cw : va_CN R s args own index y host bytes maxL ret wy rm 0 0 n ∧ (Cond.static y).before args s = true ∧ True) (hK : KN D cI cN s) (hP : va_P D vwCl ws H) (hS : va_S A0 H0 H locs) (hA : ∀ q, H0.size ≤ q → A0 q)
    (is : List Nat) (hsub : is.filterMap (fun i => ws[i]?) = wc) (hn : As.length = n) (hsz : ls.size = nL) (hst : st0 = As.reverse ++ rest) (hroom : (rest.map fun v => v.category).sum ≤ 8) (hdg : decode cc pc = .ok (.invokestatic index, 3)) (hf : cells ≤ R.cells ∧ slots ≤ R.slots)
    (kk : ∀ (H1 : Heap) (locs1 : List Loc), va_P D vwCl ws H1 → va_S A0 H0 H1 locs1 → W p l e R s m args below meth c H1 locs1 cells slots Q (F0 m (pc + 3) ls (.int r0 :: rest))) : W p l e R s m args below meth c H locs cells slots Q (F0 m pc ls st0) := by
  have hPc : va_P D vwCl wc H := hP.sub is hsub
  refine va_calli (va_runSN (As := As) (rest := rest) S hM cw ⟨blP, fun U hU hW => ⟨rfl, by rw [hU], by rw [hU]; exact hPc, hK.warm hW⟩⟩ rfl hn hsz hst (lv_room hroom) hdg hf) hS (fun q _ h => hA q (Nat.le_trans hS.1 h)) (fun q h => hA q (Nat.le_trans hS.1 h)) (fun r u t H1 locs1 ht hvm hw hB hz1 hk1 hS1 => ?_)
  subst hw
  exact kk H1 locs1 (nw_keep hP hk1) hS1
/-- a virtual call that only reads: a cell comes -/
theorem cPr (S : CallFix p m c cc nL s args Ts own) (hM : CtR l D cI cN y wy rm (.ref b :: As) wc H.size a0) (cw : CallW R s args own C index y bytes maxL ret wy rm 0 0 n) (hK : KN D cI cN s) (hP : va_P D vwCl ws H) (hS : va_S A0 H0 H locs) (hA : ∀ q, H0.size ≤ q → A0 q)
    (is : List Nat) (hsub : is.filterMap (fun i => ws[i]?) = wc) (he : ws[q0]? = some (b, .inr (ci, fs))) (hc : vwCl[ci]? = some (C, T, N)) (hn : As.length = n) (hsz : ls.size = nL) (hst : st0 = As.reverse ++ .ref b :: rest) (hroom : (rest.map fun v => v.category).sum ≤ 8) (hdg : decode cc pc = .ok (.invokevirtual index, 3)) (hf : cells ≤ R.cells ∧ slots ≤ R.slots)
    (kk : ∀ (H1 : Heap) (locs1 : List Loc), va_P D vwCl ws H1 → va_S A0 H0 H1 locs1 → W p l e R s m args below meth c H1 locs1 cells slots Q (F0 m (pc + 3) ls (.ref a0 :: rest))) : W p l e R s m args below meth c H locs cells slots Q (F0 m pc ls st0) := by
  have hPc : va_P D vwCl wc H := hP.sub is hsub
  refine va_callr (va_runV (As := As) (rest := rest) S hM cw ⟨blP, va_recv hK.1 hP hc he, fun U hU hW => ⟨rfl, by rw [hU], by rw [hU]; exact hPc, hK.warm hW⟩⟩ rfl hn hsz hst (lv_room hroom) hdg hf) hS (fun q _ h => hA q (Nat.le_trans hS.1 h)) (fun q h => hA q (Nat.le_trans hS.1 h)) (fun u ra t H1 locs1 ht hvm hw hB hz1 hk1 hS1 => ?_)
  subst hB
  exact kk H1 locs1 (nw_keep hP hk1) hS1
/-- a virtual call that writes its own cells: an int comes -/
theorem cWi (S : CallFix p m c cc nL s args Ts own) (hM : CtI l D cI cN y wy rm mc ms (.ref b :: As) wc H.size r0 w1) (cw : CallW R s args own C index y bytes maxL ret wy rm mc ms n) (hK : KN D cI cN s) (hP : va_P D vwCl ws H) (hD : va_D A0 ws) (hS : va_S A0 H0 H locs) (hA : ∀ q, H0.size ≤ q → A0 q)
    (isC isR isF : List Nat) (hC : isC.map (fun i => ws[i]?) = wc.map some) (hR : isR.map (fun i => ws[i]?) = wr.map some) (hnC : va_nd isC = true) (hnR : va_nd isR = true) (hdis : ∀ i ∈ isR, i ∉ isC) (hFi : isF.map (fun i => (wr ++ w1)[i]?) = wf.map some) (hnF : va_nd isF = true)
    (he : ws[q0]? = some (b, .inr (ci, fs))) (hc : vwCl[ci]? = some (C, T, N)) (hn : As.length = n) (hsz : ls.size = nL) (hst : st0 = As.reverse ++ .ref b :: rest) (hroom : (rest.map fun v => v.category).sum ≤ 8) (hdg : decode cc pc = .ok (.invokevirtual index, 3)) (hf : cells + mc ≤ R.cells ∧ slots + ms ≤ R.slots)
    (kk : ∀ (H1 : Heap) (locs1 : List Loc), va_P D vwCl wf H1 → va_D A0 wf → va_S A0 H0 H1 locs1 → W p l e R s m args below meth c H1 locs1 (cells + mc) (slots + ms) Q (F0 m (pc + 3) ls (.int r0 :: rest))) : W p l e R s m args below meth c H locs cells slots Q (F0 m pc ls st0) := by
  have hsub : isC.filterMap (fun i => ws[i]?) = wc := by
    have h1 : isC.filterMap (fun i => ws[i]?) = (isC.map (fun i => ws[i]?)).filterMap id := by rw [List.filterMap_map]; rfl
    rw [h1, hC, List.filterMap_map]; simp
  have hPc : va_P D vwCl wc H := hP.sub isC hsub
  have hDc : va_D (fun _ => True) wc := (hD.sub isC hnC hC).weaken (fun _ _ _ _ => trivial)
  have hFc := va_free (wc := wc) hD hS hA isC hC
  refine va_calli (va_runV (As := As) (rest := rest) S hM cw ⟨blW, va_recv hK.1 hP hc he, fun U hU hW => ⟨rfl, by rw [hU], by rw [hU]; exact hPc, hK.warm hW, hDc⟩⟩ rfl hn hsz hst (lv_room hroom) hdg hf) hS (fun q _ h => hFc q h) hFc (fun r u t H1 locs1 ht hvm hw hB hz1 hk1 hS1 => ?_)
  subst hw
  obtain ⟨hP1, hD1⟩ := hB
  rw [ht] at hP1
  obtain ⟨h1, h2⟩ := back_w hP hD isC isR isF hC hR hnR hdis hFi hnF hk1 hFc hP1 hD1
  exact kk H1 locs1 h1 h2 hS1
theorem cWv (S : CallFix p m c cc nL s args Ts own) (hM : CtV l D cI cN y wy rm mc ms (.ref b :: As) wc H.size w1) (cw : CallW R s args own C index y bytes maxL ret wy rm mc ms n) (hK : KN D cI cN s) (hP : va_P D vwCl ws H) (hD : va_D A0 ws) (hS : va_S A0 H0 H locs) (hA : ∀ q, H0.size ≤ q → A0 q)
    (isC isR isF : List Nat) (hC : isC.map (fun i => ws[i]?) = wc.map some) (hR : isR.map (fun i => ws[i]?) = wr.map some) (hnC : va_nd isC = true) (hnR : va_nd isR = true) (hdis : ∀ i ∈ isR, i ∉ isC) (hFi : isF.map (fun i => (wr ++ w1)[i]?) = wf.map some) (hnF : va_nd isF = true)
    (he : ws[q0]? = some (b, .inr (ci, fs))) (hc : vwCl[ci]? = some (C, T, N)) (hn : As.length = n) (hsz : ls.size = nL) (hst : st0 = As.reverse ++ .ref b :: rest) (hroom : (rest.map fun v => v.category).sum ≤ 8) (hdg : decode cc pc = .ok (.invokevirtual index, 3)) (hf : cells + mc ≤ R.cells ∧ slots + ms ≤ R.slots)
    (kk : ∀ (H1 : Heap) (locs1 : List Loc), va_P D vwCl wf H1 → va_D A0 wf → va_S A0 H0 H1 locs1 → W p l e R s m args below meth c H1 locs1 (cells + mc) (slots + ms) Q (F0 m (pc + 3) ls rest)) : W p l e R s m args below meth c H locs cells slots Q (F0 m pc ls st0) := by
  have hsub : isC.filterMap (fun i => ws[i]?) = wc := by
    have h1 : isC.filterMap (fun i => ws[i]?) = (isC.map (fun i => ws[i]?)).filterMap id := by rw [List.filterMap_map]; rfl
    rw [h1, hC, List.filterMap_map]; simp
  have hPc : va_P D vwCl wc H := hP.sub isC hsub
  have hDc : va_D (fun _ => True) wc := (hD.sub isC hnC hC).weaken (fun _ _ _ _ => trivial)
  have hFc := va_free (wc := wc) hD hS hA isC hC
  refine va_callv (va_runV (As := As) (rest := rest) S hM cw ⟨blW, va_recv hK.1 hP hc he, fun U hU hW => ⟨rfl, by rw [hU], by rw [hU]; exact hPc, hK.warm hW, hDc⟩⟩ rfl hn hsz hst (lv_room hroom) hdg hf) hS (fun q _ h => hFc q h) hFc (fun u t H1 locs1 ht hvm hw hB hz1 hk1 hS1 => ?_)
  obtain ⟨hP1, hD1⟩ := hB
  rw [ht] at hP1
  obtain ⟨h1, h2⟩ := back_w hP hD isC isR isF hC hR hnR hdis hFi hnF hk1 hFc hP1 hD1
  exact kk H1 locs1 h1 h2 hS1
/-- a static call that writes its own cells -/
theorem cSv (S : CallFix p m c cc nL s args Ts own) (hM : CtV l D cI cN y wy rm mc ms As wc H.size w1) (cw : CallB R s args own index y bytes maxL ret wy rm mc ms n ∧ (Cond.static y).before args s = true) (hK : KN D cI cN s) (hP : va_P D vwCl ws H) (hD : va_D A0 ws) (hS : va_S A0 H0 H locs) (hA : ∀ q, H0.size ≤ q → A0 q)
    (isC isR isF : List Nat) (hC : isC.map (fun i => ws[i]?) = wc.map some) (hR : isR.map (fun i => ws[i]?) = wr.map some) (hnC : va_nd isC = true) (hnR : va_nd isR = true) (hdis : ∀ i ∈ isR, i ∉ isC) (hFi : isF.map (fun i => (wr ++ w1)[i]?) = wf.map some) (hnF : va_nd isF = true)
    (hn : As.length = n) (hsz : ls.size = nL) (hst : st0 = As.reverse ++ rest) (hroom : (rest.map fun v => v.category).sum ≤ 8) (hdg : decode cc pc = .ok (.invokestatic index, 3)) (hf : cells + mc ≤ R.cells ∧ slots + ms ≤ R.slots)
    (kk : ∀ (H1 : Heap) (locs1 : List Loc), va_P D vwCl wf H1 → va_D A0 wf → va_S A0 H0 H1 locs1 → W p l e R s m args below meth c H1 locs1 (cells + mc) (slots + ms) Q (F0 m (pc + 3) ls rest)) : W p l e R s m args below meth c H locs cells slots Q (F0 m pc ls st0) := by
  have hsub : isC.filterMap (fun i => ws[i]?) = wc := by
    have h1 : isC.filterMap (fun i => ws[i]?) = (isC.map (fun i => ws[i]?)).filterMap id := by rw [List.filterMap_map]; rfl
    rw [h1, hC, List.filterMap_map]; simp
  have hPc : va_P D vwCl wc H := hP.sub isC hsub
  have hDc : va_D (fun _ => True) wc := (hD.sub isC hnC hC).weaken (fun _ _ _ _ => trivial)
  have hFc := va_free (wc := wc) hD hS hA isC hC
  refine va_callv (va_runS (As := As) (rest := rest) S hM cw ⟨blW, fun U hU hW => ⟨rfl, by rw [hU], by rw [hU]; exact hPc, hK.warm hW, hDc⟩⟩ rfl hn hsz hst (lv_room hroom) hdg hf) hS (fun q _ h => hFc q h) hFc (fun u t H1 locs1 ht hvm hw hB hz1 hk1 hS1 => ?_)
  obtain ⟨hP1, hD1⟩ := hB
  rw [ht] at hP1
  obtain ⟨h1, h2⟩ := back_w hP hD isC isR isF hC hR hnR hdis hFi hnF hk1 hFc hP1 hD1
  exact kk H1 locs1 h1 h2 hS1
/-- a constructor's call -/
theorem cIv (S : CallFix p m c cc nL s args Ts own) (hM : CtV l D cI cN y wy rm mc ms (.ref b :: As) wc H.size w1) (cw : CallB R s args own index y bytes maxL none wy rm mc ms n ∧ y.name = "<init>" ∧ (Cond.instanceMethod y).before args s = true) (hK : KN D cI cN s) (hP : va_P D vwCl ws H) (hD : va_D A0 ws) (hS : va_S A0 H0 H locs) (hA : ∀ q, H0.size ≤ q → A0 q)
    (isC isR isF : List Nat) (hC : isC.map (fun i => ws[i]?) = wc.map some) (hR : isR.map (fun i => ws[i]?) = wr.map some) (hnC : va_nd isC = true) (hnR : va_nd isR = true) (hdis : ∀ i ∈ isR, i ∉ isC) (hFi : isF.map (fun i => (wr ++ w1)[i]?) = wf.map some) (hnF : va_nd isF = true)
    (hn : As.length = n) (hsz : ls.size = nL) (hst : st0 = As.reverse ++ .ref b :: rest) (hroom : (rest.map fun v => v.category).sum ≤ 8) (hdg : decode cc pc = .ok (.invokespecial index, 3)) (hf : cells + mc ≤ R.cells ∧ slots + ms ≤ R.slots)
    (kk : ∀ (H1 : Heap) (locs1 : List Loc), va_P D vwCl wf H1 → va_D A0 wf → va_S A0 H0 H1 locs1 → W p l e R s m args below meth c H1 locs1 (cells + mc) (slots + ms) Q (F0 m (pc + 3) ls rest)) : W p l e R s m args below meth c H locs cells slots Q (F0 m pc ls st0) := by
  have hsub : isC.filterMap (fun i => ws[i]?) = wc := by
    have h1 : isC.filterMap (fun i => ws[i]?) = (isC.map (fun i => ws[i]?)).filterMap id := by rw [List.filterMap_map]; rfl
    rw [h1, hC, List.filterMap_map]; simp
  have hPc : va_P D vwCl wc H := hP.sub isC hsub
  have hDc : va_D (fun _ => True) wc := (hD.sub isC hnC hC).weaken (fun _ _ _ _ => trivial)
  have hFc := va_free (wc := wc) hD hS hA isC hC
  refine va_callv (va_runI (As := As) (rest := rest) S hM cw ⟨blW, fun U hU hW => ⟨rfl, by rw [hU], by rw [hU]; exact hPc, hK.warm hW, hDc⟩⟩ rfl hn hsz hst (lv_room hroom) hdg hf) hS (fun q _ h => hFc q h) hFc (fun u t H1 locs1 ht hvm hw hB hz1 hk1 hS1 => ?_)
  obtain ⟨hP1, hD1⟩ := hB
  rw [ht] at hP1
  obtain ⟨h1, h2⟩ := back_w hP hD isC isR isF hC hR hnR hdis hFi hnF hk1 hFc hP1 hD1
  exact kk H1 locs1 h1 h2 hS1
end HC
/-- following what a method computes: a branch taken, one not taken, a bind, a joint -/
theorem it_t {α : Sort _} {c : Prop} [Decidable c] {a b o : α} (h : (if c then a else b) = o) (hc : c) : a = o := by rw [if_pos hc] at h; exact h
theorem it_f {α : Sort _} {c : Prop} [Decidable c] {a b o : α} (h : (if c then a else b) = o) (hc : ¬ c) : b = o := by rw [if_neg hc] at h; exact h
theorem it_g {α : Type _} {c : Prop} [Decidable c] {a : Option α} {o : α} (h : (if c then a else none) = some o) : c ∧ a = some o := by
  by_cases hc : c
  · rw [if_pos hc] at h; exact ⟨hc, h⟩
  · rw [if_neg hc] at h; cases h
theorem it_b {α β : Type _} {x : Option α} {f : α → Option β} {o : β} (h : x.bind f = some o) : ∃ r, x = some r ∧ f r = some o := Option.bind_eq_some_iff.mp h
def jn {α β : Sort _} (a : α) (f : α → β) : β := f a
theorem it_j {α β : Sort _} {a : α} {f : α → β} {o : β} (h : jn a f = o) : ∃ r, a = r ∧ f r = o := ⟨a, rfl, h⟩
def inb (i : Int32) (n : Nat) : Bool := decide (0 ≤ i) && decide (i.toNatClampNeg < n)
theorem inb_in {i : Int32} {n : Nat} (h : inb i n = true) : vp_in i n := by
  simp only [inb, Bool.and_eq_true, decide_eq_true_eq] at h
  intro q
  rcases q with q | q
  · exact absurd h.1 (Int32.not_le.mpr q)
  · omega
theorem inb_nI {k n : Nat} (h : k < n) (hn : n < 2 ^ 31) : inb (nI k) n = true := by
  simp only [inb, Bool.and_eq_true, decide_eq_true_eq]
  exact ⟨nI_pos' (by omega), by rw [nI_clamp (by omega)]; exact h⟩
section HG
variable {p : Program} {l : Launch} {e : Env} {R : Room} {s : State} {m : MethodId} {args : Array Value} {below : List Frame} {meth : Method} {c : Code} {H : Heap} {locs : List Loc} {cells slots : Nat} {Q : State → Prop}
variable {cc : ByteArray} {pc : Nat} {ls : Array Slot} {rest : List Value} {D : va_G} {cl : List vw_C} {A : Nat → Prop} {a : Nat} {tys : List (ClassId × FieldType)} {ws wf : va_W} {H0 : Heap}
/-- a field is written: the world behind it in its own form -/
theorem gput (hexec : p.tables.exec = Jvm.exec) (hb : c.code = cc) {own ref C : String} {T : u_T} {N ci index : Nat} {Ts : List Cond} (hts : ∀ w ∈ Ts, w.before args s = true) (hin : ∀ w ∈ u_ws C T N, w ∈ Ts) (ty0 : Nat → FieldType) (hty : ∀ k, k < N → parseFieldDescriptor (T k).2.2.1 = some (ty0 k)) (hnm : ∀ a, a < N → ∀ b, b < N → a ≠ b → (T a).2.1 ≠ (T b).2.1) (hown : s.vm.findClass own = some m.cls) (hK : va_K D cl tys s) (hP : va_P D cl ws H) (hD : va_D A ws) (hS0 : va_S A H0 H locs) (q0 : Nat) {fs : List Value} (he : ws[q0]? = some (a, .inr (ci, fs))) (hc : cl[ci]? = some (C, T, N)) (k : Nat) (hk : k < N) (hlink : (Cond.fieldLink own index ref (T k).2.1 (T k).2.2.1).before args s = true) (hsame : ∀ x, s.fieldFound? (T k).1 (T k).2.1 (T k).2.2.1 = some x → s.fieldFound? ref (T k).2.1 (T k).2.2.1 = some x) (hfin : (T k).2.2.2 = false) {ty : FieldType} {v : Value} (hd : parseFieldDescriptor (T k).2.2.1 = some ty) (hn : narrow ty v = v) (hfit : fits ty v = true) (hl : k < fs.length)
    (hdg : decode cc pc = .ok (.putfield index, 3)) (hwf : ws.set q0 (a, .inr (ci, fs.set k v)) = wf) (kk : ∀ (H1 : Heap) (locs1 : List Loc), va_P D cl wf H1 → va_D A wf → va_S A H0 H1 locs1 → W p l e R s m args below meth c H1 locs1 cells slots Q (F0 m (pc + 3) ls rest)) : W p l e R s m args below meth c H locs cells slots Q (F0 m pc ls (v :: .ref a :: rest)) := by
  subst hwf
  exact va_put hexec hb hts hin ty0 hty hnm hown hK hP hD hS0 q0 he hc k hk hlink hsame hfin hd hn hfit hl hdg kk
theorem giast (hexec : p.tables.exec = Jvm.exec) (hb : c.code = cc) (hK : va_K D cl tys s) (hP : va_P D cl ws H) (hD : va_D A ws) (hS : va_S A H0 H locs) (q0 t0 : Nat) {cA : ClassId} {n : Nat} {f : Nat → Int32} (ha : ws[q0]? = some (a, .inl (cA, n, .inl f))) (ht : tys[t0]? = some (cA, .int)) {i : Int32} {x : Int32} (hin : vp_in i n) (hdg : decode cc pc = .ok (.iastore, 1)) (hwf : ws.set q0 (a, .inl (cA, n, .inl (upd f i.toNatClampNeg x))) = wf)
    (kk : ∀ (H1 : Heap) (locs1 : List Loc), va_P D cl wf H1 → va_D A wf → va_S A H0 H1 locs1 → W p l e R s m args below meth c H1 locs1 cells slots Q (F0 m (pc + 1) ls rest)) : W p l e R s m args below meth c H locs cells slots Q (F0 m pc ls (.int x :: .int i :: .ref a :: rest)) := by
  subst hwf
  exact va_iast hexec hb hK hP hD hS q0 t0 ha ht hin hdg kk
end HG
end
section
/-! the worlds: what the cells of a row, a network, a router, a text, the model are, by a pure state (fields, rows) -/
abbrev OS : Type := (Nat → Int32) × (Nat → Nat → Int32)
def setF (n : OS) (k : Nat) (v : Int32) : OS := (upd n.1 k v, n.2)
def setR (n : OS) (k : Nat) (f : Nat → Int32) : OS := (n.1, fun j => if j = k then f else n.2 j)
def rowN : Nat → Int32 := fun _ => (-6 : Int32)
def rget (f : Nat → Int32) (L : Nat) (i : Int32) : Int32 := if i < 0 then (-6 : Int32) else if Int32.ofNat L ≤ i then (-6 : Int32) else f i.toNatClampNeg
def rset (f : Nat → Int32) (L : Nat) (i v : Int32) : Nat → Int32 := if i < 0 then f else if Int32.ofNat L ≤ i then f else upd f i.toNatClampNeg v
def rwW (cI : ClassId) (a b L : Nat) (f : Nat → Int32) : va_W := [(a, .inr (4, [.ref b])), (b, .inl (cI, L, .inl f))]
def nwW (cI : ClassId) (q : Nat → Nat) (n : OS) : va_W := [(q 0, .inr (1, [.int (n.1 0), .int (n.1 1), .int (n.1 2), .int (n.1 3), .int (n.1 4), .int (n.1 5), .int (n.1 6), .int (n.1 7), .int (n.1 8), .int (n.1 9), .ref (q 1), .ref (q 2), .ref (q 3), .ref (q 4), .ref (q 5), .ref (q 6)])),
  (q 1, .inr (4, [.ref (q 7)])), (q 2, .inr (4, [.ref (q 8)])), (q 3, .inr (4, [.ref (q 9)])), (q 4, .inr (4, [.ref (q 10)])), (q 5, .inr (4, [.ref (q 11)])), (q 6, .inr (4, [.ref (q 12)])),
  (q 7, .inl (cI, 48, .inl (n.2 0))), (q 8, .inl (cI, 48, .inl (n.2 1))), (q 9, .inl (cI, 48, .inl (n.2 2))), (q 10, .inl (cI, 48, .inl (n.2 3))), (q 11, .inl (cI, 64, .inl (n.2 4))), (q 12, .inl (cI, 64, .inl (n.2 5)))]
def rtW (cI : ClassId) (t : Nat → Nat) (r : OS) : va_W := [(t 0, .inr (3, [.ref (t 1), .int (r.1 1), .int (r.1 2), .int (r.1 3), .ref (t 2)])), (t 1, .inr (4, [.ref (t 3)])), (t 2, .inr (4, [.ref (t 4)])), (t 3, .inl (cI, 16, .inl (r.2 0))), (t 4, .inl (cI, 48, .inl (r.2 1)))]
def txW (cI : ClassId) (u : Nat → Nat) (x : OS) : va_W := [(u 0, .inr (2, [.ref (u 1), .int (x.1 1), .int (x.1 2), .int (x.1 3), .int (x.1 4), .int (x.1 5)])), (u 1, .inr (4, [.ref (u 2)])), (u 2, .inl (cI, 60, .inl (x.2 0)))]
def mdW (cI : ClassId) (z : Nat → Nat) (g : OS) : va_W := [(z 0, .inr (6, [.ref (z 1), .int (g.1 1), .int (g.1 2), .ref (z 2), .int (g.1 4), .int (g.1 5), .int (g.1 6), .int (g.1 7), .int (g.1 8), .ref (z 3), .int (g.1 10), .ref (z 4)])), (z 1, .inl (cI, 1078, .inl (g.2 0))), (z 2, .inl (cI, 60, .inl (g.2 1))), (z 3, .inl (cI, 48, .inl (g.2 2))), (z 4, .inl (cI, 48, .inl (g.2 3)))]
def cxW (a a0 a1 a2 a3 a4 a5 a6 : Nat) (k : Int32) : va_W := [(a, .inr (5, [.ref a0, .ref a1, .ref a2, .ref a3, .ref a4, .ref a5, .ref a6, .int k]))]
def pickW (ws : va_W) (is : List Nat) : va_W := is.filterMap (fun i => ws[i]?)
theorem cell_ce {cA : ClassId} {n : Nat} {f g : Nat → Int32} (h : ∀ j, j < n → f j = g j) : vp_cell cA (n, .inl f) = vp_cell cA (n, .inl g) := by
  rw [vp_cell_i, vp_cell_i]
  unfold arrV
  congr 1
  apply Array.ext
  · simp
  · intro i h1 h2
    simp only [Array.getElem_ofFn]
    rw [h i (by simpa using h1)]
theorem P_ce {D : va_G} {cl : List vw_C} {ws : va_W} {H : Heap} (h : va_P D cl ws H) {k b n : Nat} {cA : ClassId} {f g : Nat → Int32} (hk : ws[k]? = some (b, .inl (cA, n, .inl f))) (hfg : ∀ j, j < n → f j = g j) : va_P D cl (ws.set k (b, .inl (cA, n, .inl g))) H := by
  intro i q hq
  have hl := (List.getElem?_eq_some_iff.mp hk).1
  by_cases hi : i = k
  · subst hi
    rw [List.getElem?_set_self hl] at hq
    cases hq
    show H[b]? = some (vp_cell _ _)
    rw [← cell_ce hfg]
    exact h i _ hk
  · rw [List.getElem?_set_ne (Ne.symm hi)] at hq
    exact h i q hq
end
section
set_option maxRecDepth 20000 in
theorem ggX1_init_X4_init : GoodIn wsX1_init wsX4_init := goodIn_r _ [19, 20, 2, 3, 21, 22, 23, 24, 25, 26, 27, 28, 29, 30, 47] (by decide +kernel) (by decide +kernel)
set_option maxRecDepth 20000 in
theorem gX1_init_X4_init : GoodIn wsX1_init (wsX4_init) := ggX1_init_X4_init
theorem dX1_init_0 : decode cX1_init 0 = .ok (.aload_n 0, 1) := by decide +kernel
theorem dX1_init_1 : decode cX1_init 1 = .ok (.invokespecial 3, 3) := by decide +kernel
theorem dX1_init_4 : decode cX1_init 4 = .ok (.aload_n 0, 1) := by decide +kernel
theorem dX1_init_5 : decode cX1_init 5 = .ok (.iconst 4, 1) := by decide +kernel
theorem dX1_init_6 : decode cX1_init 6 = .ok (.putfield 9, 3) := by decide +kernel
theorem dX1_init_9 : decode cX1_init 9 = .ok (.aload_n 0, 1) := by decide +kernel
theorem dX1_init_10 : decode cX1_init 10 = .ok (.iconst 3, 1) := by decide +kernel
theorem dX1_init_11 : decode cX1_init 11 = .ok (.putfield 15, 3) := by decide +kernel
theorem dX1_init_14 : decode cX1_init 14 = .ok (.aload_n 0, 1) := by decide +kernel
theorem dX1_init_15 : decode cX1_init 15 = .ok (.iconst 3, 1) := by decide +kernel
theorem dX1_init_16 : decode cX1_init 16 = .ok (.putfield 18, 3) := by decide +kernel
theorem dX1_init_19 : decode cX1_init 19 = .ok (.aload_n 0, 1) := by decide +kernel
theorem dX1_init_20 : decode cX1_init 20 = .ok (.bipush 7, 2) := by decide +kernel
theorem dX1_init_22 : decode cX1_init 22 = .ok (.putfield 21, 3) := by decide +kernel
theorem dX1_init_25 : decode cX1_init 25 = .ok (.aload_n 0, 1) := by decide +kernel
theorem dX1_init_26 : decode cX1_init 26 = .ok (.new 24, 3) := by decide +kernel
theorem dX1_init_29 : decode cX1_init 29 = .ok (.dup, 1) := by decide +kernel
theorem dX1_init_30 : decode cX1_init 30 = .ok (.bipush 48, 2) := by decide +kernel
theorem dX1_init_32 : decode cX1_init 32 = .ok (.invokespecial 26, 3) := by decide +kernel
theorem dX1_init_35 : decode cX1_init 35 = .ok (.putfield 29, 3) := by decide +kernel
theorem dX1_init_38 : decode cX1_init 38 = .ok (.aload_n 0, 1) := by decide +kernel
theorem dX1_init_39 : decode cX1_init 39 = .ok (.new 24, 3) := by decide +kernel
theorem dX1_init_42 : decode cX1_init 42 = .ok (.dup, 1) := by decide +kernel
theorem dX1_init_43 : decode cX1_init 43 = .ok (.bipush 48, 2) := by decide +kernel
theorem dX1_init_45 : decode cX1_init 45 = .ok (.invokespecial 26, 3) := by decide +kernel
theorem dX1_init_48 : decode cX1_init 48 = .ok (.putfield 33, 3) := by decide +kernel
theorem dX1_init_51 : decode cX1_init 51 = .ok (.aload_n 0, 1) := by decide +kernel
theorem dX1_init_52 : decode cX1_init 52 = .ok (.new 24, 3) := by decide +kernel
theorem dX1_init_55 : decode cX1_init 55 = .ok (.dup, 1) := by decide +kernel
theorem dX1_init_56 : decode cX1_init 56 = .ok (.bipush 48, 2) := by decide +kernel
theorem dX1_init_58 : decode cX1_init 58 = .ok (.invokespecial 26, 3) := by decide +kernel
theorem dX1_init_61 : decode cX1_init 61 = .ok (.putfield 36, 3) := by decide +kernel
theorem dX1_init_64 : decode cX1_init 64 = .ok (.aload_n 0, 1) := by decide +kernel
theorem dX1_init_65 : decode cX1_init 65 = .ok (.new 24, 3) := by decide +kernel
theorem dX1_init_68 : decode cX1_init 68 = .ok (.dup, 1) := by decide +kernel
theorem dX1_init_69 : decode cX1_init 69 = .ok (.bipush 48, 2) := by decide +kernel
theorem dX1_init_71 : decode cX1_init 71 = .ok (.invokespecial 26, 3) := by decide +kernel
theorem dX1_init_74 : decode cX1_init 74 = .ok (.putfield 39, 3) := by decide +kernel
theorem dX1_init_77 : decode cX1_init 77 = .ok (.aload_n 0, 1) := by decide +kernel
theorem dX1_init_78 : decode cX1_init 78 = .ok (.new 24, 3) := by decide +kernel
theorem dX1_init_81 : decode cX1_init 81 = .ok (.dup, 1) := by decide +kernel
theorem dX1_init_82 : decode cX1_init 82 = .ok (.bipush 64, 2) := by decide +kernel
theorem dX1_init_84 : decode cX1_init 84 = .ok (.invokespecial 26, 3) := by decide +kernel
theorem dX1_init_87 : decode cX1_init 87 = .ok (.putfield 42, 3) := by decide +kernel
theorem dX1_init_90 : decode cX1_init 90 = .ok (.aload_n 0, 1) := by decide +kernel
theorem dX1_init_91 : decode cX1_init 91 = .ok (.new 24, 3) := by decide +kernel
theorem dX1_init_94 : decode cX1_init 94 = .ok (.dup, 1) := by decide +kernel
theorem dX1_init_95 : decode cX1_init 95 = .ok (.bipush 64, 2) := by decide +kernel
theorem dX1_init_97 : decode cX1_init 97 = .ok (.invokespecial 26, 3) := by decide +kernel
theorem dX1_init_100 : decode cX1_init 100 = .ok (.putfield 45, 3) := by decide +kernel
theorem dX1_init_103 : decode cX1_init 103 = .ok (.return_, 1) := by decide +kernel
set_option maxRecDepth 20000 in
theorem ggX1_copyFrom_X4_copyFrom : GoodIn wsX1_copyFrom wsX4_copyFrom := goodIn_r _ [21, 22, 23, 24, 25, 26, 27, 28, 29, 30, 47] (by decide +kernel) (by decide +kernel)
set_option maxRecDepth 20000 in
theorem gX1_copyFrom_X4_copyFrom : GoodIn wsX1_copyFrom (wsV RX1 66 RX4 yX4_copyFrom wsX4_copyFrom) := goodIn_app (goodIn_of _ (by decide +kernel)) ggX1_copyFrom_X4_copyFrom
theorem dX1_copyFrom_0 : decode cX1_copyFrom 0 = .ok (.aload_n 0, 1) := by decide +kernel
theorem dX1_copyFrom_1 : decode cX1_copyFrom 1 = .ok (.aload_n 1, 1) := by decide +kernel
theorem dX1_copyFrom_2 : decode cX1_copyFrom 2 = .ok (.getfield 9, 3) := by decide +kernel
theorem dX1_copyFrom_5 : decode cX1_copyFrom 5 = .ok (.putfield 9, 3) := by decide +kernel
theorem dX1_copyFrom_8 : decode cX1_copyFrom 8 = .ok (.aload_n 0, 1) := by decide +kernel
theorem dX1_copyFrom_9 : decode cX1_copyFrom 9 = .ok (.aload_n 1, 1) := by decide +kernel
theorem dX1_copyFrom_10 : decode cX1_copyFrom 10 = .ok (.getfield 15, 3) := by decide +kernel
theorem dX1_copyFrom_13 : decode cX1_copyFrom 13 = .ok (.putfield 15, 3) := by decide +kernel
theorem dX1_copyFrom_16 : decode cX1_copyFrom 16 = .ok (.aload_n 0, 1) := by decide +kernel
theorem dX1_copyFrom_17 : decode cX1_copyFrom 17 = .ok (.aload_n 1, 1) := by decide +kernel
theorem dX1_copyFrom_18 : decode cX1_copyFrom 18 = .ok (.getfield 18, 3) := by decide +kernel
theorem dX1_copyFrom_21 : decode cX1_copyFrom 21 = .ok (.putfield 18, 3) := by decide +kernel
theorem dX1_copyFrom_24 : decode cX1_copyFrom 24 = .ok (.aload_n 0, 1) := by decide +kernel
theorem dX1_copyFrom_25 : decode cX1_copyFrom 25 = .ok (.aload_n 1, 1) := by decide +kernel
theorem dX1_copyFrom_26 : decode cX1_copyFrom 26 = .ok (.getfield 21, 3) := by decide +kernel
theorem dX1_copyFrom_29 : decode cX1_copyFrom 29 = .ok (.putfield 21, 3) := by decide +kernel
theorem dX1_copyFrom_32 : decode cX1_copyFrom 32 = .ok (.aload_n 0, 1) := by decide +kernel
theorem dX1_copyFrom_33 : decode cX1_copyFrom 33 = .ok (.aload_n 1, 1) := by decide +kernel
theorem dX1_copyFrom_34 : decode cX1_copyFrom 34 = .ok (.getfield 48, 3) := by decide +kernel
theorem dX1_copyFrom_37 : decode cX1_copyFrom 37 = .ok (.putfield 48, 3) := by decide +kernel
theorem dX1_copyFrom_40 : decode cX1_copyFrom 40 = .ok (.aload_n 0, 1) := by decide +kernel
theorem dX1_copyFrom_41 : decode cX1_copyFrom 41 = .ok (.aload_n 1, 1) := by decide +kernel
theorem dX1_copyFrom_42 : decode cX1_copyFrom 42 = .ok (.getfield 51, 3) := by decide +kernel
theorem dX1_copyFrom_45 : decode cX1_copyFrom 45 = .ok (.putfield 51, 3) := by decide +kernel
theorem dX1_copyFrom_48 : decode cX1_copyFrom 48 = .ok (.aload_n 0, 1) := by decide +kernel
theorem dX1_copyFrom_49 : decode cX1_copyFrom 49 = .ok (.aload_n 1, 1) := by decide +kernel
theorem dX1_copyFrom_50 : decode cX1_copyFrom 50 = .ok (.getfield 54, 3) := by decide +kernel
theorem dX1_copyFrom_53 : decode cX1_copyFrom 53 = .ok (.putfield 54, 3) := by decide +kernel
theorem dX1_copyFrom_56 : decode cX1_copyFrom 56 = .ok (.aload_n 0, 1) := by decide +kernel
theorem dX1_copyFrom_57 : decode cX1_copyFrom 57 = .ok (.aload_n 1, 1) := by decide +kernel
theorem dX1_copyFrom_58 : decode cX1_copyFrom 58 = .ok (.getfield 57, 3) := by decide +kernel
theorem dX1_copyFrom_61 : decode cX1_copyFrom 61 = .ok (.putfield 57, 3) := by decide +kernel
theorem dX1_copyFrom_64 : decode cX1_copyFrom 64 = .ok (.aload_n 0, 1) := by decide +kernel
theorem dX1_copyFrom_65 : decode cX1_copyFrom 65 = .ok (.aload_n 1, 1) := by decide +kernel
theorem dX1_copyFrom_66 : decode cX1_copyFrom 66 = .ok (.getfield 60, 3) := by decide +kernel
theorem dX1_copyFrom_69 : decode cX1_copyFrom 69 = .ok (.putfield 60, 3) := by decide +kernel
theorem dX1_copyFrom_72 : decode cX1_copyFrom 72 = .ok (.aload_n 0, 1) := by decide +kernel
theorem dX1_copyFrom_73 : decode cX1_copyFrom 73 = .ok (.aload_n 1, 1) := by decide +kernel
theorem dX1_copyFrom_74 : decode cX1_copyFrom 74 = .ok (.getfield 63, 3) := by decide +kernel
theorem dX1_copyFrom_77 : decode cX1_copyFrom 77 = .ok (.putfield 63, 3) := by decide +kernel
theorem dX1_copyFrom_80 : decode cX1_copyFrom 80 = .ok (.aload_n 0, 1) := by decide +kernel
theorem dX1_copyFrom_81 : decode cX1_copyFrom 81 = .ok (.getfield 29, 3) := by decide +kernel
theorem dX1_copyFrom_84 : decode cX1_copyFrom 84 = .ok (.aload_n 1, 1) := by decide +kernel
theorem dX1_copyFrom_85 : decode cX1_copyFrom 85 = .ok (.getfield 29, 3) := by decide +kernel
theorem dX1_copyFrom_88 : decode cX1_copyFrom 88 = .ok (.invokevirtual 66, 3) := by decide +kernel
theorem dX1_copyFrom_91 : decode cX1_copyFrom 91 = .ok (.aload_n 0, 1) := by decide +kernel
theorem dX1_copyFrom_92 : decode cX1_copyFrom 92 = .ok (.getfield 33, 3) := by decide +kernel
theorem dX1_copyFrom_95 : decode cX1_copyFrom 95 = .ok (.aload_n 1, 1) := by decide +kernel
theorem dX1_copyFrom_96 : decode cX1_copyFrom 96 = .ok (.getfield 33, 3) := by decide +kernel
theorem dX1_copyFrom_99 : decode cX1_copyFrom 99 = .ok (.invokevirtual 66, 3) := by decide +kernel
theorem dX1_copyFrom_102 : decode cX1_copyFrom 102 = .ok (.aload_n 0, 1) := by decide +kernel
theorem dX1_copyFrom_103 : decode cX1_copyFrom 103 = .ok (.getfield 36, 3) := by decide +kernel
theorem dX1_copyFrom_106 : decode cX1_copyFrom 106 = .ok (.aload_n 1, 1) := by decide +kernel
theorem dX1_copyFrom_107 : decode cX1_copyFrom 107 = .ok (.getfield 36, 3) := by decide +kernel
theorem dX1_copyFrom_110 : decode cX1_copyFrom 110 = .ok (.invokevirtual 66, 3) := by decide +kernel
theorem dX1_copyFrom_113 : decode cX1_copyFrom 113 = .ok (.aload_n 0, 1) := by decide +kernel
theorem dX1_copyFrom_114 : decode cX1_copyFrom 114 = .ok (.getfield 39, 3) := by decide +kernel
theorem dX1_copyFrom_117 : decode cX1_copyFrom 117 = .ok (.aload_n 1, 1) := by decide +kernel
theorem dX1_copyFrom_118 : decode cX1_copyFrom 118 = .ok (.getfield 39, 3) := by decide +kernel
theorem dX1_copyFrom_121 : decode cX1_copyFrom 121 = .ok (.invokevirtual 66, 3) := by decide +kernel
theorem dX1_copyFrom_124 : decode cX1_copyFrom 124 = .ok (.aload_n 0, 1) := by decide +kernel
theorem dX1_copyFrom_125 : decode cX1_copyFrom 125 = .ok (.getfield 42, 3) := by decide +kernel
theorem dX1_copyFrom_128 : decode cX1_copyFrom 128 = .ok (.aload_n 1, 1) := by decide +kernel
theorem dX1_copyFrom_129 : decode cX1_copyFrom 129 = .ok (.getfield 42, 3) := by decide +kernel
theorem dX1_copyFrom_132 : decode cX1_copyFrom 132 = .ok (.invokevirtual 66, 3) := by decide +kernel
theorem dX1_copyFrom_135 : decode cX1_copyFrom 135 = .ok (.aload_n 0, 1) := by decide +kernel
theorem dX1_copyFrom_136 : decode cX1_copyFrom 136 = .ok (.getfield 45, 3) := by decide +kernel
theorem dX1_copyFrom_139 : decode cX1_copyFrom 139 = .ok (.aload_n 1, 1) := by decide +kernel
theorem dX1_copyFrom_140 : decode cX1_copyFrom 140 = .ok (.getfield 45, 3) := by decide +kernel
theorem dX1_copyFrom_143 : decode cX1_copyFrom 143 = .ok (.invokevirtual 66, 3) := by decide +kernel
theorem dX1_copyFrom_146 : decode cX1_copyFrom 146 = .ok (.return_, 1) := by decide +kernel
set_option maxRecDepth 20000 in
theorem ggX1_rebuild_X1_countCalls : GoodIn wsX1_rebuild wsX1_countCalls := goodIn_r _ [16, 6, 17, 18, 19, 20, 21, 22, 31, 32, 33, 34, 35, 36, 37, 38, 39, 40, 41, 42, 43, 44, 45, 46, 47] (by decide +kernel) (by decide +kernel)
set_option maxRecDepth 20000 in
theorem gX1_rebuild_X1_countCalls : GoodIn wsX1_rebuild (wsV RX1 70 RX1 yX1_countCalls wsX1_countCalls) := goodIn_app (goodIn_of _ (by decide +kernel)) ggX1_rebuild_X1_countCalls
set_option maxRecDepth 20000 in
theorem ggX1_rebuild_X4_empty : GoodIn wsX1_rebuild wsX4_empty := goodIn_r _ [26, 22, 27, 28, 29, 30, 47] (by decide +kernel) (by decide +kernel)
set_option maxRecDepth 20000 in
theorem gX1_rebuild_X4_empty : GoodIn wsX1_rebuild (wsV RX1 74 RX4 yX4_empty wsX4_empty) := goodIn_app (goodIn_of _ (by decide +kernel)) ggX1_rebuild_X4_empty
theorem dX1_rebuild_0 : decode cX1_rebuild 0 = .ok (.aload_n 0, 1) := by decide +kernel
theorem dX1_rebuild_1 : decode cX1_rebuild 1 = .ok (.invokevirtual 70, 3) := by decide +kernel
theorem dX1_rebuild_4 : decode cX1_rebuild 4 = .ok (.istore 4, 2) := by decide +kernel
theorem dX1_rebuild_6 : decode cX1_rebuild 6 = .ok (.aload_n 0, 1) := by decide +kernel
theorem dX1_rebuild_7 : decode cX1_rebuild 7 = .ok (.dup, 1) := by decide +kernel
theorem dX1_rebuild_8 : decode cX1_rebuild 8 = .ok (.getfield 57, 3) := by decide +kernel
theorem dX1_rebuild_11 : decode cX1_rebuild 11 = .ok (.iload 4, 2) := by decide +kernel
theorem dX1_rebuild_13 : decode cX1_rebuild 13 = .ok (.iadd, 1) := by decide +kernel
theorem dX1_rebuild_14 : decode cX1_rebuild 14 = .ok (.putfield 57, 3) := by decide +kernel
theorem dX1_rebuild_17 : decode cX1_rebuild 17 = .ok (.aload_n 0, 1) := by decide +kernel
theorem dX1_rebuild_18 : decode cX1_rebuild 18 = .ok (.iload_n 1, 1) := by decide +kernel
theorem dX1_rebuild_19 : decode cX1_rebuild 19 = .ok (.putfield 9, 3) := by decide +kernel
theorem dX1_rebuild_22 : decode cX1_rebuild 22 = .ok (.aload_n 0, 1) := by decide +kernel
theorem dX1_rebuild_23 : decode cX1_rebuild 23 = .ok (.iload_n 2, 1) := by decide +kernel
theorem dX1_rebuild_24 : decode cX1_rebuild 24 = .ok (.putfield 15, 3) := by decide +kernel
theorem dX1_rebuild_27 : decode cX1_rebuild 27 = .ok (.aload_n 0, 1) := by decide +kernel
theorem dX1_rebuild_28 : decode cX1_rebuild 28 = .ok (.iload_n 3, 1) := by decide +kernel
theorem dX1_rebuild_29 : decode cX1_rebuild 29 = .ok (.putfield 18, 3) := by decide +kernel
theorem dX1_rebuild_32 : decode cX1_rebuild 32 = .ok (.aload_n 0, 1) := by decide +kernel
theorem dX1_rebuild_33 : decode cX1_rebuild 33 = .ok (.iconst 1, 1) := by decide +kernel
theorem dX1_rebuild_34 : decode cX1_rebuild 34 = .ok (.iload_n 3, 1) := by decide +kernel
theorem dX1_rebuild_35 : decode cX1_rebuild 35 = .ok (.ishl, 1) := by decide +kernel
theorem dX1_rebuild_36 : decode cX1_rebuild 36 = .ok (.iconst 1, 1) := by decide +kernel
theorem dX1_rebuild_37 : decode cX1_rebuild 37 = .ok (.isub, 1) := by decide +kernel
theorem dX1_rebuild_38 : decode cX1_rebuild 38 = .ok (.putfield 21, 3) := by decide +kernel
theorem dX1_rebuild_41 : decode cX1_rebuild 41 = .ok (.aload_n 0, 1) := by decide +kernel
theorem dX1_rebuild_42 : decode cX1_rebuild 42 = .ok (.getfield 29, 3) := by decide +kernel
theorem dX1_rebuild_45 : decode cX1_rebuild 45 = .ok (.invokevirtual 74, 3) := by decide +kernel
theorem dX1_rebuild_48 : decode cX1_rebuild 48 = .ok (.aload_n 0, 1) := by decide +kernel
theorem dX1_rebuild_49 : decode cX1_rebuild 49 = .ok (.getfield 33, 3) := by decide +kernel
theorem dX1_rebuild_52 : decode cX1_rebuild 52 = .ok (.invokevirtual 74, 3) := by decide +kernel
theorem dX1_rebuild_55 : decode cX1_rebuild 55 = .ok (.aload_n 0, 1) := by decide +kernel
theorem dX1_rebuild_56 : decode cX1_rebuild 56 = .ok (.getfield 36, 3) := by decide +kernel
theorem dX1_rebuild_59 : decode cX1_rebuild 59 = .ok (.invokevirtual 74, 3) := by decide +kernel
theorem dX1_rebuild_62 : decode cX1_rebuild 62 = .ok (.aload_n 0, 1) := by decide +kernel
theorem dX1_rebuild_63 : decode cX1_rebuild 63 = .ok (.getfield 39, 3) := by decide +kernel
theorem dX1_rebuild_66 : decode cX1_rebuild 66 = .ok (.invokevirtual 74, 3) := by decide +kernel
theorem dX1_rebuild_69 : decode cX1_rebuild 69 = .ok (.aload_n 0, 1) := by decide +kernel
theorem dX1_rebuild_70 : decode cX1_rebuild 70 = .ok (.getfield 42, 3) := by decide +kernel
theorem dX1_rebuild_73 : decode cX1_rebuild 73 = .ok (.invokevirtual 74, 3) := by decide +kernel
theorem dX1_rebuild_76 : decode cX1_rebuild 76 = .ok (.aload_n 0, 1) := by decide +kernel
theorem dX1_rebuild_77 : decode cX1_rebuild 77 = .ok (.getfield 45, 3) := by decide +kernel
theorem dX1_rebuild_80 : decode cX1_rebuild 80 = .ok (.invokevirtual 74, 3) := by decide +kernel
theorem dX1_rebuild_83 : decode cX1_rebuild 83 = .ok (.iload 4, 2) := by decide +kernel
theorem dX1_rebuild_85 : decode cX1_rebuild 85 = .ok (.ireturn, 1) := by decide +kernel
theorem dX1_isLine_0 : decode cX1_isLine 0 = .ok (.iload_n 1, 1) := by decide +kernel
theorem dX1_isLine_1 : decode cX1_isLine 1 = .ok (.ifCond .lt 20, 3) := by decide +kernel
theorem dX1_isLine_4 : decode cX1_isLine 4 = .ok (.iload_n 1, 1) := by decide +kernel
theorem dX1_isLine_5 : decode cX1_isLine 5 = .ok (.aload_n 0, 1) := by decide +kernel
theorem dX1_isLine_6 : decode cX1_isLine 6 = .ok (.getfield 9, 3) := by decide +kernel
theorem dX1_isLine_9 : decode cX1_isLine 9 = .ok (.aload_n 0, 1) := by decide +kernel
theorem dX1_isLine_10 : decode cX1_isLine 10 = .ok (.getfield 15, 3) := by decide +kernel
theorem dX1_isLine_13 : decode cX1_isLine 13 = .ok (.imul, 1) := by decide +kernel
theorem dX1_isLine_14 : decode cX1_isLine 14 = .ok (.if_icmp .ge 7, 3) := by decide +kernel
theorem dX1_isLine_17 : decode cX1_isLine 17 = .ok (.iconst 1, 1) := by decide +kernel
theorem dX1_isLine_18 : decode cX1_isLine 18 = .ok (.goto 4, 3) := by decide +kernel
theorem dX1_isLine_21 : decode cX1_isLine 21 = .ok (.iconst 0, 1) := by decide +kernel
theorem dX1_isLine_22 : decode cX1_isLine 22 = .ok (.ireturn, 1) := by decide +kernel
theorem dX1_isBoard_0 : decode cX1_isBoard 0 = .ok (.iload_n 1, 1) := by decide +kernel
theorem dX1_isBoard_1 : decode cX1_isBoard 1 = .ok (.ifCond .lt 15, 3) := by decide +kernel
theorem dX1_isBoard_4 : decode cX1_isBoard 4 = .ok (.iload_n 1, 1) := by decide +kernel
theorem dX1_isBoard_5 : decode cX1_isBoard 5 = .ok (.aload_n 0, 1) := by decide +kernel
theorem dX1_isBoard_6 : decode cX1_isBoard 6 = .ok (.getfield 9, 3) := by decide +kernel
theorem dX1_isBoard_9 : decode cX1_isBoard 9 = .ok (.if_icmp .ge 7, 3) := by decide +kernel
theorem dX1_isBoard_12 : decode cX1_isBoard 12 = .ok (.iconst 1, 1) := by decide +kernel
theorem dX1_isBoard_13 : decode cX1_isBoard 13 = .ok (.goto 4, 3) := by decide +kernel
theorem dX1_isBoard_16 : decode cX1_isBoard 16 = .ok (.iconst 0, 1) := by decide +kernel
theorem dX1_isBoard_17 : decode cX1_isBoard 17 = .ok (.ireturn, 1) := by decide +kernel
theorem dX1_isMiddle_0 : decode cX1_isMiddle 0 = .ok (.iload_n 1, 1) := by decide +kernel
theorem dX1_isMiddle_1 : decode cX1_isMiddle 1 = .ok (.ifCond .lt 15, 3) := by decide +kernel
theorem dX1_isMiddle_4 : decode cX1_isMiddle 4 = .ok (.iload_n 1, 1) := by decide +kernel
theorem dX1_isMiddle_5 : decode cX1_isMiddle 5 = .ok (.aload_n 0, 1) := by decide +kernel
theorem dX1_isMiddle_6 : decode cX1_isMiddle 6 = .ok (.getfield 18, 3) := by decide +kernel
theorem dX1_isMiddle_9 : decode cX1_isMiddle 9 = .ok (.if_icmp .ge 7, 3) := by decide +kernel
theorem dX1_isMiddle_12 : decode cX1_isMiddle 12 = .ok (.iconst 1, 1) := by decide +kernel
theorem dX1_isMiddle_13 : decode cX1_isMiddle 13 = .ok (.goto 4, 3) := by decide +kernel
theorem dX1_isMiddle_16 : decode cX1_isMiddle 16 = .ok (.iconst 0, 1) := by decide +kernel
theorem dX1_isMiddle_17 : decode cX1_isMiddle 17 = .ok (.ireturn, 1) := by decide +kernel
set_option maxRecDepth 20000 in
theorem ggX1_isInletBusy_X4_get : GoodIn wsX1_isInletBusy wsX4_get := goodIn_r _ [6, 7, 24] (by decide +kernel) (by decide +kernel)
set_option maxRecDepth 20000 in
theorem gX1_isInletBusy_X4_get : GoodIn wsX1_isInletBusy (wsV RX1 77 RX4 yX4_get wsX4_get) := goodIn_app (goodIn_of _ (by decide +kernel)) ggX1_isInletBusy_X4_get
theorem dX1_isInletBusy_0 : decode cX1_isInletBusy 0 = .ok (.aload_n 0, 1) := by decide +kernel
theorem dX1_isInletBusy_1 : decode cX1_isInletBusy 1 = .ok (.getfield 29, 3) := by decide +kernel
theorem dX1_isInletBusy_4 : decode cX1_isInletBusy 4 = .ok (.iload_n 1, 1) := by decide +kernel
theorem dX1_isInletBusy_5 : decode cX1_isInletBusy 5 = .ok (.invokevirtual 77, 3) := by decide +kernel
theorem dX1_isInletBusy_8 : decode cX1_isInletBusy 8 = .ok (.ifCond .lt 7, 3) := by decide +kernel
theorem dX1_isInletBusy_11 : decode cX1_isInletBusy 11 = .ok (.iconst 1, 1) := by decide +kernel
theorem dX1_isInletBusy_12 : decode cX1_isInletBusy 12 = .ok (.goto 4, 3) := by decide +kernel
theorem dX1_isInletBusy_15 : decode cX1_isInletBusy 15 = .ok (.iconst 0, 1) := by decide +kernel
theorem dX1_isInletBusy_16 : decode cX1_isInletBusy 16 = .ok (.ireturn, 1) := by decide +kernel
set_option maxRecDepth 20000 in
theorem ggX1_isOutletBusy_X4_get : GoodIn wsX1_isOutletBusy wsX4_get := goodIn_r _ [6, 7, 24] (by decide +kernel) (by decide +kernel)
set_option maxRecDepth 20000 in
theorem gX1_isOutletBusy_X4_get : GoodIn wsX1_isOutletBusy (wsV RX1 77 RX4 yX4_get wsX4_get) := goodIn_app (goodIn_of _ (by decide +kernel)) ggX1_isOutletBusy_X4_get
theorem dX1_isOutletBusy_0 : decode cX1_isOutletBusy 0 = .ok (.aload_n 0, 1) := by decide +kernel
theorem dX1_isOutletBusy_1 : decode cX1_isOutletBusy 1 = .ok (.getfield 39, 3) := by decide +kernel
theorem dX1_isOutletBusy_4 : decode cX1_isOutletBusy 4 = .ok (.iload_n 1, 1) := by decide +kernel
theorem dX1_isOutletBusy_5 : decode cX1_isOutletBusy 5 = .ok (.invokevirtual 77, 3) := by decide +kernel
theorem dX1_isOutletBusy_8 : decode cX1_isOutletBusy 8 = .ok (.ifCond .lt 7, 3) := by decide +kernel
theorem dX1_isOutletBusy_11 : decode cX1_isOutletBusy 11 = .ok (.iconst 1, 1) := by decide +kernel
theorem dX1_isOutletBusy_12 : decode cX1_isOutletBusy 12 = .ok (.goto 4, 3) := by decide +kernel
theorem dX1_isOutletBusy_15 : decode cX1_isOutletBusy 15 = .ok (.iconst 0, 1) := by decide +kernel
theorem dX1_isOutletBusy_16 : decode cX1_isOutletBusy 16 = .ok (.ireturn, 1) := by decide +kernel
theorem dX1_boardOf_0 : decode cX1_boardOf 0 = .ok (.aload_n 0, 1) := by decide +kernel
theorem dX1_boardOf_1 : decode cX1_boardOf 1 = .ok (.getfield 15, 3) := by decide +kernel
theorem dX1_boardOf_4 : decode cX1_boardOf 4 = .ok (.ifCond .le 12, 3) := by decide +kernel
theorem dX1_boardOf_7 : decode cX1_boardOf 7 = .ok (.iload_n 1, 1) := by decide +kernel
theorem dX1_boardOf_8 : decode cX1_boardOf 8 = .ok (.aload_n 0, 1) := by decide +kernel
theorem dX1_boardOf_9 : decode cX1_boardOf 9 = .ok (.getfield 15, 3) := by decide +kernel
theorem dX1_boardOf_12 : decode cX1_boardOf 12 = .ok (.idiv, 1) := by decide +kernel
theorem dX1_boardOf_13 : decode cX1_boardOf 13 = .ok (.goto 4, 3) := by decide +kernel
theorem dX1_boardOf_16 : decode cX1_boardOf 16 = .ok (.iconst 0, 1) := by decide +kernel
theorem dX1_boardOf_17 : decode cX1_boardOf 17 = .ok (.ireturn, 1) := by decide +kernel
set_option maxRecDepth 20000 in
theorem ggX1_countCalls_X4_get : GoodIn wsX1_countCalls wsX4_get := goodIn_r _ [6, 7, 24] (by decide +kernel) (by decide +kernel)
set_option maxRecDepth 20000 in
theorem gX1_countCalls_X4_get : GoodIn wsX1_countCalls (wsV RX1 77 RX4 yX4_get wsX4_get) := goodIn_app (goodIn_of _ (by decide +kernel)) ggX1_countCalls_X4_get
theorem dX1_countCalls_0 : decode cX1_countCalls 0 = .ok (.iconst 0, 1) := by decide +kernel
theorem dX1_countCalls_1 : decode cX1_countCalls 1 = .ok (.istore_n 1, 1) := by decide +kernel
theorem dX1_countCalls_2 : decode cX1_countCalls 2 = .ok (.iconst 0, 1) := by decide +kernel
theorem dX1_countCalls_3 : decode cX1_countCalls 3 = .ok (.istore_n 2, 1) := by decide +kernel
theorem dX1_countCalls_4 : decode cX1_countCalls 4 = .ok (.iload_n 2, 1) := by decide +kernel
theorem dX1_countCalls_5 : decode cX1_countCalls 5 = .ok (.bipush 48, 2) := by decide +kernel
theorem dX1_countCalls_7 : decode cX1_countCalls 7 = .ok (.if_icmp .ge 28, 3) := by decide +kernel
theorem dX1_countCalls_10 : decode cX1_countCalls 10 = .ok (.iload_n 1, 1) := by decide +kernel
theorem dX1_countCalls_11 : decode cX1_countCalls 11 = .ok (.aload_n 0, 1) := by decide +kernel
theorem dX1_countCalls_12 : decode cX1_countCalls 12 = .ok (.getfield 29, 3) := by decide +kernel
theorem dX1_countCalls_15 : decode cX1_countCalls 15 = .ok (.iload_n 2, 1) := by decide +kernel
theorem dX1_countCalls_16 : decode cX1_countCalls 16 = .ok (.invokevirtual 77, 3) := by decide +kernel
theorem dX1_countCalls_19 : decode cX1_countCalls 19 = .ok (.ifCond .lt 7, 3) := by decide +kernel
theorem dX1_countCalls_22 : decode cX1_countCalls 22 = .ok (.iconst 1, 1) := by decide +kernel
theorem dX1_countCalls_23 : decode cX1_countCalls 23 = .ok (.goto 4, 3) := by decide +kernel
theorem dX1_countCalls_26 : decode cX1_countCalls 26 = .ok (.iconst 0, 1) := by decide +kernel
theorem dX1_countCalls_27 : decode cX1_countCalls 27 = .ok (.iadd, 1) := by decide +kernel
theorem dX1_countCalls_28 : decode cX1_countCalls 28 = .ok (.istore_n 1, 1) := by decide +kernel
theorem dX1_countCalls_29 : decode cX1_countCalls 29 = .ok (.iinc 2 1, 3) := by decide +kernel
theorem dX1_countCalls_32 : decode cX1_countCalls 32 = .ok (.goto (-28), 3) := by decide +kernel
theorem dX1_countCalls_35 : decode cX1_countCalls 35 = .ok (.iload_n 1, 1) := by decide +kernel
theorem dX1_countCalls_36 : decode cX1_countCalls 36 = .ok (.ireturn, 1) := by decide +kernel
set_option maxRecDepth 20000 in
theorem ggX1_findInlet_X4_get : GoodIn wsX1_findInlet wsX4_get := goodIn_r _ [6, 7, 24] (by decide +kernel) (by decide +kernel)
set_option maxRecDepth 20000 in
theorem gX1_findInlet_X4_get : GoodIn wsX1_findInlet (wsV RX1 77 RX4 yX4_get wsX4_get) := goodIn_app (goodIn_of _ (by decide +kernel)) ggX1_findInlet_X4_get
theorem dX1_findInlet_0 : decode cX1_findInlet 0 = .ok (.iload_n 1, 1) := by decide +kernel
theorem dX1_findInlet_1 : decode cX1_findInlet 1 = .ok (.ifCond .ge 5, 3) := by decide +kernel
theorem dX1_findInlet_4 : decode cX1_findInlet 4 = .ok (.iconst (-1), 1) := by decide +kernel
theorem dX1_findInlet_5 : decode cX1_findInlet 5 = .ok (.ireturn, 1) := by decide +kernel
theorem dX1_findInlet_6 : decode cX1_findInlet 6 = .ok (.iconst 0, 1) := by decide +kernel
theorem dX1_findInlet_7 : decode cX1_findInlet 7 = .ok (.istore_n 2, 1) := by decide +kernel
theorem dX1_findInlet_8 : decode cX1_findInlet 8 = .ok (.iload_n 2, 1) := by decide +kernel
theorem dX1_findInlet_9 : decode cX1_findInlet 9 = .ok (.bipush 48, 2) := by decide +kernel
theorem dX1_findInlet_11 : decode cX1_findInlet 11 = .ok (.if_icmp .ge 23, 3) := by decide +kernel
theorem dX1_findInlet_14 : decode cX1_findInlet 14 = .ok (.aload_n 0, 1) := by decide +kernel
theorem dX1_findInlet_15 : decode cX1_findInlet 15 = .ok (.getfield 29, 3) := by decide +kernel
theorem dX1_findInlet_18 : decode cX1_findInlet 18 = .ok (.iload_n 2, 1) := by decide +kernel
theorem dX1_findInlet_19 : decode cX1_findInlet 19 = .ok (.invokevirtual 77, 3) := by decide +kernel
theorem dX1_findInlet_22 : decode cX1_findInlet 22 = .ok (.iload_n 1, 1) := by decide +kernel
theorem dX1_findInlet_23 : decode cX1_findInlet 23 = .ok (.if_icmp .ne 5, 3) := by decide +kernel
theorem dX1_findInlet_26 : decode cX1_findInlet 26 = .ok (.iload_n 2, 1) := by decide +kernel
theorem dX1_findInlet_27 : decode cX1_findInlet 27 = .ok (.ireturn, 1) := by decide +kernel
theorem dX1_findInlet_28 : decode cX1_findInlet 28 = .ok (.iinc 2 1, 3) := by decide +kernel
theorem dX1_findInlet_31 : decode cX1_findInlet 31 = .ok (.goto (-23), 3) := by decide +kernel
theorem dX1_findInlet_34 : decode cX1_findInlet 34 = .ok (.iconst (-1), 1) := by decide +kernel
theorem dX1_findInlet_35 : decode cX1_findInlet 35 = .ok (.ireturn, 1) := by decide +kernel
set_option maxRecDepth 20000 in
theorem ggX1_loadOf_X5_link : GoodIn wsX1_loadOf wsX5_link := goodIn_r _ [5] (by decide +kernel) (by decide +kernel)
set_option maxRecDepth 20000 in
theorem gX1_loadOf_X5_link_n81 : GoodIn wsX1_loadOf (wsX5_link) := ggX1_loadOf_X5_link
set_option maxRecDepth 20000 in
theorem ggX1_loadOf_X4_get : GoodIn wsX1_loadOf wsX4_get := goodIn_r _ [10, 11, 28] (by decide +kernel) (by decide +kernel)
set_option maxRecDepth 20000 in
theorem gX1_loadOf_X4_get : GoodIn wsX1_loadOf (wsV RX1 77 RX4 yX4_get wsX4_get) := goodIn_app (goodIn_of _ (by decide +kernel)) ggX1_loadOf_X4_get
theorem dX1_loadOf_0 : decode cX1_loadOf 0 = .ok (.iconst 0, 1) := by decide +kernel
theorem dX1_loadOf_1 : decode cX1_loadOf 1 = .ok (.istore_n 2, 1) := by decide +kernel
theorem dX1_loadOf_2 : decode cX1_loadOf 2 = .ok (.iconst 0, 1) := by decide +kernel
theorem dX1_loadOf_3 : decode cX1_loadOf 3 = .ok (.istore_n 3, 1) := by decide +kernel
theorem dX1_loadOf_4 : decode cX1_loadOf 4 = .ok (.iload_n 3, 1) := by decide +kernel
theorem dX1_loadOf_5 : decode cX1_loadOf 5 = .ok (.aload_n 0, 1) := by decide +kernel
theorem dX1_loadOf_6 : decode cX1_loadOf 6 = .ok (.getfield 9, 3) := by decide +kernel
theorem dX1_loadOf_9 : decode cX1_loadOf 9 = .ok (.if_icmp .ge 32, 3) := by decide +kernel
theorem dX1_loadOf_12 : decode cX1_loadOf 12 = .ok (.iload_n 2, 1) := by decide +kernel
theorem dX1_loadOf_13 : decode cX1_loadOf 13 = .ok (.aload_n 0, 1) := by decide +kernel
theorem dX1_loadOf_14 : decode cX1_loadOf 14 = .ok (.getfield 42, 3) := by decide +kernel
theorem dX1_loadOf_17 : decode cX1_loadOf 17 = .ok (.iload_n 3, 1) := by decide +kernel
theorem dX1_loadOf_18 : decode cX1_loadOf 18 = .ok (.iload_n 1, 1) := by decide +kernel
theorem dX1_loadOf_19 : decode cX1_loadOf 19 = .ok (.invokestatic 81, 3) := by decide +kernel
theorem dX1_loadOf_22 : decode cX1_loadOf 22 = .ok (.invokevirtual 77, 3) := by decide +kernel
theorem dX1_loadOf_25 : decode cX1_loadOf 25 = .ok (.ifCond .lt 7, 3) := by decide +kernel
theorem dX1_loadOf_28 : decode cX1_loadOf 28 = .ok (.iconst 1, 1) := by decide +kernel
theorem dX1_loadOf_29 : decode cX1_loadOf 29 = .ok (.goto 4, 3) := by decide +kernel
theorem dX1_loadOf_32 : decode cX1_loadOf 32 = .ok (.iconst 0, 1) := by decide +kernel
theorem dX1_loadOf_33 : decode cX1_loadOf 33 = .ok (.iadd, 1) := by decide +kernel
theorem dX1_loadOf_34 : decode cX1_loadOf 34 = .ok (.istore_n 2, 1) := by decide +kernel
theorem dX1_loadOf_35 : decode cX1_loadOf 35 = .ok (.iinc 3 1, 3) := by decide +kernel
theorem dX1_loadOf_38 : decode cX1_loadOf 38 = .ok (.goto (-34), 3) := by decide +kernel
theorem dX1_loadOf_41 : decode cX1_loadOf 41 = .ok (.iload_n 2, 1) := by decide +kernel
theorem dX1_loadOf_42 : decode cX1_loadOf 42 = .ok (.ireturn, 1) := by decide +kernel
set_option maxRecDepth 20000 in
theorem ggX1_freeOnLinks_X5_link : GoodIn wsX1_freeOnLinks wsX5_link := goodIn_r _ [5] (by decide +kernel) (by decide +kernel)
set_option maxRecDepth 20000 in
theorem gX1_freeOnLinks_X5_link_n81 : GoodIn wsX1_freeOnLinks (wsX5_link) := ggX1_freeOnLinks_X5_link
set_option maxRecDepth 20000 in
theorem ggX1_freeOnLinks_X4_get : GoodIn wsX1_freeOnLinks wsX4_get := goodIn_r _ [10, 11, 28] (by decide +kernel) (by decide +kernel)
set_option maxRecDepth 20000 in
theorem gX1_freeOnLinks_X4_get : GoodIn wsX1_freeOnLinks (wsV RX1 77 RX4 yX4_get wsX4_get) := goodIn_app (goodIn_of _ (by decide +kernel)) ggX1_freeOnLinks_X4_get
theorem dX1_freeOnLinks_0 : decode cX1_freeOnLinks 0 = .ok (.iconst 0, 1) := by decide +kernel
theorem dX1_freeOnLinks_1 : decode cX1_freeOnLinks 1 = .ok (.istore_n 3, 1) := by decide +kernel
theorem dX1_freeOnLinks_2 : decode cX1_freeOnLinks 2 = .ok (.iconst 0, 1) := by decide +kernel
theorem dX1_freeOnLinks_3 : decode cX1_freeOnLinks 3 = .ok (.istore 4, 2) := by decide +kernel
theorem dX1_freeOnLinks_5 : decode cX1_freeOnLinks 5 = .ok (.iload 4, 2) := by decide +kernel
theorem dX1_freeOnLinks_7 : decode cX1_freeOnLinks 7 = .ok (.aload_n 0, 1) := by decide +kernel
theorem dX1_freeOnLinks_8 : decode cX1_freeOnLinks 8 = .ok (.getfield 18, 3) := by decide +kernel
theorem dX1_freeOnLinks_11 : decode cX1_freeOnLinks 11 = .ok (.if_icmp .ge 29, 3) := by decide +kernel
theorem dX1_freeOnLinks_14 : decode cX1_freeOnLinks 14 = .ok (.aload_n 1, 1) := by decide +kernel
theorem dX1_freeOnLinks_15 : decode cX1_freeOnLinks 15 = .ok (.iload_n 2, 1) := by decide +kernel
theorem dX1_freeOnLinks_16 : decode cX1_freeOnLinks 16 = .ok (.iload 4, 2) := by decide +kernel
theorem dX1_freeOnLinks_18 : decode cX1_freeOnLinks 18 = .ok (.invokestatic 81, 3) := by decide +kernel
theorem dX1_freeOnLinks_21 : decode cX1_freeOnLinks 21 = .ok (.invokevirtual 77, 3) := by decide +kernel
theorem dX1_freeOnLinks_24 : decode cX1_freeOnLinks 24 = .ok (.ifCond .ge 10, 3) := by decide +kernel
theorem dX1_freeOnLinks_27 : decode cX1_freeOnLinks 27 = .ok (.iload_n 3, 1) := by decide +kernel
theorem dX1_freeOnLinks_28 : decode cX1_freeOnLinks 28 = .ok (.iconst 1, 1) := by decide +kernel
theorem dX1_freeOnLinks_29 : decode cX1_freeOnLinks 29 = .ok (.iload 4, 2) := by decide +kernel
theorem dX1_freeOnLinks_31 : decode cX1_freeOnLinks 31 = .ok (.ishl, 1) := by decide +kernel
theorem dX1_freeOnLinks_32 : decode cX1_freeOnLinks 32 = .ok (.ior, 1) := by decide +kernel
theorem dX1_freeOnLinks_33 : decode cX1_freeOnLinks 33 = .ok (.istore_n 3, 1) := by decide +kernel
theorem dX1_freeOnLinks_34 : decode cX1_freeOnLinks 34 = .ok (.iinc 4 1, 3) := by decide +kernel
theorem dX1_freeOnLinks_37 : decode cX1_freeOnLinks 37 = .ok (.goto (-32), 3) := by decide +kernel
theorem dX1_freeOnLinks_40 : decode cX1_freeOnLinks 40 = .ok (.iload_n 3, 1) := by decide +kernel
theorem dX1_freeOnLinks_41 : decode cX1_freeOnLinks 41 = .ok (.aload_n 0, 1) := by decide +kernel
theorem dX1_freeOnLinks_42 : decode cX1_freeOnLinks 42 = .ok (.getfield 21, 3) := by decide +kernel
theorem dX1_freeOnLinks_45 : decode cX1_freeOnLinks 45 = .ok (.iand, 1) := by decide +kernel
theorem dX1_freeOnLinks_46 : decode cX1_freeOnLinks 46 = .ok (.ireturn, 1) := by decide +kernel
set_option maxRecDepth 20000 in
theorem ggX1_fullestBoard_X1_isInletBusy : GoodIn wsX1_fullestBoard wsX1_isInletBusy := goodIn_r _ [11, 12, 13, 14, 15, 16, 17, 18, 24, 25, 26, 27, 28, 29, 30, 31, 32, 33, 34, 35, 36, 37, 38, 39, 40] (by decide +kernel) (by decide +kernel)
set_option maxRecDepth 20000 in
theorem gX1_fullestBoard_X1_isInletBusy : GoodIn wsX1_fullestBoard (wsV RX1 85 RX1 yX1_isInletBusy wsX1_isInletBusy) := goodIn_app (goodIn_of _ (by decide +kernel)) ggX1_fullestBoard_X1_isInletBusy
set_option maxRecDepth 20000 in
theorem ggX1_fullestBoard_X1_isOutletBusy : GoodIn wsX1_fullestBoard wsX1_isOutletBusy := goodIn_r _ [22, 23, 13, 14, 15, 16, 17, 18, 24, 25, 26, 27, 28, 29, 30, 31, 32, 33, 34, 35, 36, 37, 38, 39, 40] (by decide +kernel) (by decide +kernel)
set_option maxRecDepth 20000 in
theorem gX1_fullestBoard_X1_isOutletBusy : GoodIn wsX1_fullestBoard (wsV RX1 89 RX1 yX1_isOutletBusy wsX1_isOutletBusy) := goodIn_app (goodIn_of _ (by decide +kernel)) ggX1_fullestBoard_X1_isOutletBusy
theorem dX1_fullestBoard_0 : decode cX1_fullestBoard 0 = .ok (.iconst 0, 1) := by decide +kernel
theorem dX1_fullestBoard_1 : decode cX1_fullestBoard 1 = .ok (.istore_n 1, 1) := by decide +kernel
theorem dX1_fullestBoard_2 : decode cX1_fullestBoard 2 = .ok (.iconst 0, 1) := by decide +kernel
theorem dX1_fullestBoard_3 : decode cX1_fullestBoard 3 = .ok (.istore_n 2, 1) := by decide +kernel
theorem dX1_fullestBoard_4 : decode cX1_fullestBoard 4 = .ok (.iload_n 2, 1) := by decide +kernel
theorem dX1_fullestBoard_5 : decode cX1_fullestBoard 5 = .ok (.aload_n 0, 1) := by decide +kernel
theorem dX1_fullestBoard_6 : decode cX1_fullestBoard 6 = .ok (.getfield 9, 3) := by decide +kernel
theorem dX1_fullestBoard_9 : decode cX1_fullestBoard 9 = .ok (.if_icmp .ge 88, 3) := by decide +kernel
theorem dX1_fullestBoard_12 : decode cX1_fullestBoard 12 = .ok (.iconst 0, 1) := by decide +kernel
theorem dX1_fullestBoard_13 : decode cX1_fullestBoard 13 = .ok (.istore_n 3, 1) := by decide +kernel
theorem dX1_fullestBoard_14 : decode cX1_fullestBoard 14 = .ok (.iconst 0, 1) := by decide +kernel
theorem dX1_fullestBoard_15 : decode cX1_fullestBoard 15 = .ok (.istore 4, 2) := by decide +kernel
theorem dX1_fullestBoard_17 : decode cX1_fullestBoard 17 = .ok (.iload_n 2, 1) := by decide +kernel
theorem dX1_fullestBoard_18 : decode cX1_fullestBoard 18 = .ok (.aload_n 0, 1) := by decide +kernel
theorem dX1_fullestBoard_19 : decode cX1_fullestBoard 19 = .ok (.getfield 15, 3) := by decide +kernel
theorem dX1_fullestBoard_22 : decode cX1_fullestBoard 22 = .ok (.imul, 1) := by decide +kernel
theorem dX1_fullestBoard_23 : decode cX1_fullestBoard 23 = .ok (.istore 5, 2) := by decide +kernel
theorem dX1_fullestBoard_25 : decode cX1_fullestBoard 25 = .ok (.iload 5, 2) := by decide +kernel
theorem dX1_fullestBoard_27 : decode cX1_fullestBoard 27 = .ok (.iload_n 2, 1) := by decide +kernel
theorem dX1_fullestBoard_28 : decode cX1_fullestBoard 28 = .ok (.iconst 1, 1) := by decide +kernel
theorem dX1_fullestBoard_29 : decode cX1_fullestBoard 29 = .ok (.iadd, 1) := by decide +kernel
theorem dX1_fullestBoard_30 : decode cX1_fullestBoard 30 = .ok (.aload_n 0, 1) := by decide +kernel
theorem dX1_fullestBoard_31 : decode cX1_fullestBoard 31 = .ok (.getfield 15, 3) := by decide +kernel
theorem dX1_fullestBoard_34 : decode cX1_fullestBoard 34 = .ok (.imul, 1) := by decide +kernel
theorem dX1_fullestBoard_35 : decode cX1_fullestBoard 35 = .ok (.if_icmp .ge 45, 3) := by decide +kernel
theorem dX1_fullestBoard_38 : decode cX1_fullestBoard 38 = .ok (.iload_n 3, 1) := by decide +kernel
theorem dX1_fullestBoard_39 : decode cX1_fullestBoard 39 = .ok (.aload_n 0, 1) := by decide +kernel
theorem dX1_fullestBoard_40 : decode cX1_fullestBoard 40 = .ok (.iload 5, 2) := by decide +kernel
theorem dX1_fullestBoard_42 : decode cX1_fullestBoard 42 = .ok (.invokevirtual 85, 3) := by decide +kernel
theorem dX1_fullestBoard_45 : decode cX1_fullestBoard 45 = .ok (.ifCond .eq 7, 3) := by decide +kernel
theorem dX1_fullestBoard_48 : decode cX1_fullestBoard 48 = .ok (.iconst 1, 1) := by decide +kernel
theorem dX1_fullestBoard_49 : decode cX1_fullestBoard 49 = .ok (.goto 4, 3) := by decide +kernel
theorem dX1_fullestBoard_52 : decode cX1_fullestBoard 52 = .ok (.iconst 0, 1) := by decide +kernel
theorem dX1_fullestBoard_53 : decode cX1_fullestBoard 53 = .ok (.iadd, 1) := by decide +kernel
theorem dX1_fullestBoard_54 : decode cX1_fullestBoard 54 = .ok (.istore_n 3, 1) := by decide +kernel
theorem dX1_fullestBoard_55 : decode cX1_fullestBoard 55 = .ok (.iload 4, 2) := by decide +kernel
theorem dX1_fullestBoard_57 : decode cX1_fullestBoard 57 = .ok (.aload_n 0, 1) := by decide +kernel
theorem dX1_fullestBoard_58 : decode cX1_fullestBoard 58 = .ok (.iload 5, 2) := by decide +kernel
theorem dX1_fullestBoard_60 : decode cX1_fullestBoard 60 = .ok (.invokevirtual 89, 3) := by decide +kernel
theorem dX1_fullestBoard_63 : decode cX1_fullestBoard 63 = .ok (.ifCond .eq 7, 3) := by decide +kernel
theorem dX1_fullestBoard_66 : decode cX1_fullestBoard 66 = .ok (.iconst 1, 1) := by decide +kernel
theorem dX1_fullestBoard_67 : decode cX1_fullestBoard 67 = .ok (.goto 4, 3) := by decide +kernel
theorem dX1_fullestBoard_70 : decode cX1_fullestBoard 70 = .ok (.iconst 0, 1) := by decide +kernel
theorem dX1_fullestBoard_71 : decode cX1_fullestBoard 71 = .ok (.iadd, 1) := by decide +kernel
theorem dX1_fullestBoard_72 : decode cX1_fullestBoard 72 = .ok (.istore 4, 2) := by decide +kernel
theorem dX1_fullestBoard_74 : decode cX1_fullestBoard 74 = .ok (.iinc 5 1, 3) := by decide +kernel
theorem dX1_fullestBoard_77 : decode cX1_fullestBoard 77 = .ok (.goto (-52), 3) := by decide +kernel
theorem dX1_fullestBoard_80 : decode cX1_fullestBoard 80 = .ok (.iload_n 1, 1) := by decide +kernel
theorem dX1_fullestBoard_81 : decode cX1_fullestBoard 81 = .ok (.iload_n 3, 1) := by decide +kernel
theorem dX1_fullestBoard_82 : decode cX1_fullestBoard 82 = .ok (.iload 4, 2) := by decide +kernel
theorem dX1_fullestBoard_84 : decode cX1_fullestBoard 84 = .ok (.invokestatic 92, 3) := by decide +kernel
theorem dX1_fullestBoard_87 : decode cX1_fullestBoard 87 = .ok (.invokestatic 92, 3) := by decide +kernel
theorem dX1_fullestBoard_90 : decode cX1_fullestBoard 90 = .ok (.istore_n 1, 1) := by decide +kernel
theorem dX1_fullestBoard_91 : decode cX1_fullestBoard 91 = .ok (.iinc 2 1, 3) := by decide +kernel
theorem dX1_fullestBoard_94 : decode cX1_fullestBoard 94 = .ok (.goto (-90), 3) := by decide +kernel
theorem dX1_fullestBoard_97 : decode cX1_fullestBoard 97 = .ok (.iload_n 1, 1) := by decide +kernel
theorem dX1_fullestBoard_98 : decode cX1_fullestBoard 98 = .ok (.ireturn, 1) := by decide +kernel
set_option maxRecDepth 20000 in
theorem ggX1_addCall_X4_set : GoodIn wsX1_addCall wsX4_set := goodIn_r _ [9, 10, 27] (by decide +kernel) (by decide +kernel)
set_option maxRecDepth 20000 in
theorem gX1_addCall_X4_set : GoodIn wsX1_addCall (wsV RX1 97 RX4 yX4_set wsX4_set) := goodIn_app (goodIn_of _ (by decide +kernel)) ggX1_addCall_X4_set
theorem dX1_addCall_0 : decode cX1_addCall 0 = .ok (.aload_n 0, 1) := by decide +kernel
theorem dX1_addCall_1 : decode cX1_addCall 1 = .ok (.getfield 29, 3) := by decide +kernel
theorem dX1_addCall_4 : decode cX1_addCall 4 = .ok (.iload_n 1, 1) := by decide +kernel
theorem dX1_addCall_5 : decode cX1_addCall 5 = .ok (.aload_n 0, 1) := by decide +kernel
theorem dX1_addCall_6 : decode cX1_addCall 6 = .ok (.getfield 54, 3) := by decide +kernel
theorem dX1_addCall_9 : decode cX1_addCall 9 = .ok (.invokevirtual 97, 3) := by decide +kernel
theorem dX1_addCall_12 : decode cX1_addCall 12 = .ok (.aload_n 0, 1) := by decide +kernel
theorem dX1_addCall_13 : decode cX1_addCall 13 = .ok (.getfield 33, 3) := by decide +kernel
theorem dX1_addCall_16 : decode cX1_addCall 16 = .ok (.iload_n 1, 1) := by decide +kernel
theorem dX1_addCall_17 : decode cX1_addCall 17 = .ok (.iload_n 2, 1) := by decide +kernel
theorem dX1_addCall_18 : decode cX1_addCall 18 = .ok (.invokevirtual 97, 3) := by decide +kernel
theorem dX1_addCall_21 : decode cX1_addCall 21 = .ok (.aload_n 0, 1) := by decide +kernel
theorem dX1_addCall_22 : decode cX1_addCall 22 = .ok (.getfield 39, 3) := by decide +kernel
theorem dX1_addCall_25 : decode cX1_addCall 25 = .ok (.iload_n 2, 1) := by decide +kernel
theorem dX1_addCall_26 : decode cX1_addCall 26 = .ok (.iload_n 1, 1) := by decide +kernel
theorem dX1_addCall_27 : decode cX1_addCall 27 = .ok (.invokevirtual 97, 3) := by decide +kernel
theorem dX1_addCall_30 : decode cX1_addCall 30 = .ok (.aload_n 0, 1) := by decide +kernel
theorem dX1_addCall_31 : decode cX1_addCall 31 = .ok (.dup, 1) := by decide +kernel
theorem dX1_addCall_32 : decode cX1_addCall 32 = .ok (.getfield 54, 3) := by decide +kernel
theorem dX1_addCall_35 : decode cX1_addCall 35 = .ok (.iconst 1, 1) := by decide +kernel
theorem dX1_addCall_36 : decode cX1_addCall 36 = .ok (.iadd, 1) := by decide +kernel
theorem dX1_addCall_37 : decode cX1_addCall 37 = .ok (.putfield 54, 3) := by decide +kernel
theorem dX1_addCall_40 : decode cX1_addCall 40 = .ok (.return_, 1) := by decide +kernel
set_option maxRecDepth 20000 in
theorem ggX1_removeCall_X1_liftCall : GoodIn wsX1_removeCall wsX1_liftCall := goodIn_r _ [8, 9, 10, 11, 2, 12, 13, 14, 15, 16, 17, 18, 19, 20, 7, 21, 22, 23, 24, 25, 26, 27, 28, 29, 30, 31, 32, 33, 34, 35, 36, 37, 38, 39, 40, 41, 42, 43, 44, 45, 46] (by decide +kernel) (by decide +kernel)
set_option maxRecDepth 20000 in
theorem gX1_removeCall_X1_liftCall : GoodIn wsX1_removeCall (wsV RX1 101 RX1 yX1_liftCall wsX1_liftCall) := goodIn_app (goodIn_of _ (by decide +kernel)) ggX1_removeCall_X1_liftCall
set_option maxRecDepth 20000 in
theorem ggX1_removeCall_X4_get : GoodIn wsX1_removeCall wsX4_get := goodIn_r _ [16, 17, 46] (by decide +kernel) (by decide +kernel)
set_option maxRecDepth 20000 in
theorem gX1_removeCall_X4_get : GoodIn wsX1_removeCall (wsV RX1 77 RX4 yX4_get wsX4_get) := goodIn_app (goodIn_of _ (by decide +kernel)) ggX1_removeCall_X4_get
set_option maxRecDepth 20000 in
theorem ggX1_removeCall_X4_set : GoodIn wsX1_removeCall wsX4_set := goodIn_r _ [29, 17, 46] (by decide +kernel) (by decide +kernel)
set_option maxRecDepth 20000 in
theorem gX1_removeCall_X4_set : GoodIn wsX1_removeCall (wsV RX1 97 RX4 yX4_set wsX4_set) := goodIn_app (goodIn_of _ (by decide +kernel)) ggX1_removeCall_X4_set
theorem dX1_removeCall_0 : decode cX1_removeCall 0 = .ok (.aload_n 0, 1) := by decide +kernel
theorem dX1_removeCall_1 : decode cX1_removeCall 1 = .ok (.iload_n 1, 1) := by decide +kernel
theorem dX1_removeCall_2 : decode cX1_removeCall 2 = .ok (.invokevirtual 101, 3) := by decide +kernel
theorem dX1_removeCall_5 : decode cX1_removeCall 5 = .ok (.aload_n 0, 1) := by decide +kernel
theorem dX1_removeCall_6 : decode cX1_removeCall 6 = .ok (.getfield 39, 3) := by decide +kernel
theorem dX1_removeCall_9 : decode cX1_removeCall 9 = .ok (.aload_n 0, 1) := by decide +kernel
theorem dX1_removeCall_10 : decode cX1_removeCall 10 = .ok (.getfield 33, 3) := by decide +kernel
theorem dX1_removeCall_13 : decode cX1_removeCall 13 = .ok (.iload_n 1, 1) := by decide +kernel
theorem dX1_removeCall_14 : decode cX1_removeCall 14 = .ok (.invokevirtual 77, 3) := by decide +kernel
theorem dX1_removeCall_17 : decode cX1_removeCall 17 = .ok (.bipush (-6), 2) := by decide +kernel
theorem dX1_removeCall_19 : decode cX1_removeCall 19 = .ok (.invokevirtual 97, 3) := by decide +kernel
theorem dX1_removeCall_22 : decode cX1_removeCall 22 = .ok (.aload_n 0, 1) := by decide +kernel
theorem dX1_removeCall_23 : decode cX1_removeCall 23 = .ok (.getfield 33, 3) := by decide +kernel
theorem dX1_removeCall_26 : decode cX1_removeCall 26 = .ok (.iload_n 1, 1) := by decide +kernel
theorem dX1_removeCall_27 : decode cX1_removeCall 27 = .ok (.bipush (-6), 2) := by decide +kernel
theorem dX1_removeCall_29 : decode cX1_removeCall 29 = .ok (.invokevirtual 97, 3) := by decide +kernel
theorem dX1_removeCall_32 : decode cX1_removeCall 32 = .ok (.aload_n 0, 1) := by decide +kernel
theorem dX1_removeCall_33 : decode cX1_removeCall 33 = .ok (.getfield 29, 3) := by decide +kernel
theorem dX1_removeCall_36 : decode cX1_removeCall 36 = .ok (.iload_n 1, 1) := by decide +kernel
theorem dX1_removeCall_37 : decode cX1_removeCall 37 = .ok (.bipush (-6), 2) := by decide +kernel
theorem dX1_removeCall_39 : decode cX1_removeCall 39 = .ok (.invokevirtual 97, 3) := by decide +kernel
theorem dX1_removeCall_42 : decode cX1_removeCall 42 = .ok (.return_, 1) := by decide +kernel
set_option maxRecDepth 20000 in
theorem ggX1_carryCall_X4_set : GoodIn wsX1_carryCall wsX4_set := goodIn_r _ [9, 10, 40] (by decide +kernel) (by decide +kernel)
set_option maxRecDepth 20000 in
theorem gX1_carryCall_X4_set : GoodIn wsX1_carryCall (wsV RX1 97 RX4 yX4_set wsX4_set) := goodIn_app (goodIn_of _ (by decide +kernel)) ggX1_carryCall_X4_set
set_option maxRecDepth 20000 in
theorem ggX1_carryCall_X1_boardOf : GoodIn wsX1_carryCall wsX1_boardOf := goodIn_r _ [15, 16, 24, 25, 26, 27, 28, 29, 30, 31, 32, 33, 34, 35, 36, 37, 38, 39] (by decide +kernel) (by decide +kernel)
set_option maxRecDepth 20000 in
theorem gX1_carryCall_X1_boardOf : GoodIn wsX1_carryCall (wsV RX1 104 RX1 yX1_boardOf wsX1_boardOf) := goodIn_app (goodIn_of _ (by decide +kernel)) ggX1_carryCall_X1_boardOf
set_option maxRecDepth 20000 in
theorem ggX1_carryCall_X5_link : GoodIn wsX1_carryCall wsX5_link := goodIn_r _ [19] (by decide +kernel) (by decide +kernel)
set_option maxRecDepth 20000 in
theorem gX1_carryCall_X5_link_n81 : GoodIn wsX1_carryCall (wsX5_link) := ggX1_carryCall_X5_link
set_option maxRecDepth 20000 in
theorem ggX1_carryCall_X4_get : GoodIn wsX1_carryCall wsX4_get := goodIn_r _ [23, 10, 40] (by decide +kernel) (by decide +kernel)
set_option maxRecDepth 20000 in
theorem gX1_carryCall_X4_get : GoodIn wsX1_carryCall (wsV RX1 77 RX4 yX4_get wsX4_get) := goodIn_app (goodIn_of _ (by decide +kernel)) ggX1_carryCall_X4_get
theorem dX1_carryCall_0 : decode cX1_carryCall 0 = .ok (.aload_n 0, 1) := by decide +kernel
theorem dX1_carryCall_1 : decode cX1_carryCall 1 = .ok (.getfield 36, 3) := by decide +kernel
theorem dX1_carryCall_4 : decode cX1_carryCall 4 = .ok (.iload_n 1, 1) := by decide +kernel
theorem dX1_carryCall_5 : decode cX1_carryCall 5 = .ok (.iload_n 2, 1) := by decide +kernel
theorem dX1_carryCall_6 : decode cX1_carryCall 6 = .ok (.invokevirtual 97, 3) := by decide +kernel
theorem dX1_carryCall_9 : decode cX1_carryCall 9 = .ok (.aload_n 0, 1) := by decide +kernel
theorem dX1_carryCall_10 : decode cX1_carryCall 10 = .ok (.getfield 42, 3) := by decide +kernel
theorem dX1_carryCall_13 : decode cX1_carryCall 13 = .ok (.aload_n 0, 1) := by decide +kernel
theorem dX1_carryCall_14 : decode cX1_carryCall 14 = .ok (.iload_n 1, 1) := by decide +kernel
theorem dX1_carryCall_15 : decode cX1_carryCall 15 = .ok (.invokevirtual 104, 3) := by decide +kernel
theorem dX1_carryCall_18 : decode cX1_carryCall 18 = .ok (.iload_n 2, 1) := by decide +kernel
theorem dX1_carryCall_19 : decode cX1_carryCall 19 = .ok (.invokestatic 81, 3) := by decide +kernel
theorem dX1_carryCall_22 : decode cX1_carryCall 22 = .ok (.iload_n 1, 1) := by decide +kernel
theorem dX1_carryCall_23 : decode cX1_carryCall 23 = .ok (.invokevirtual 97, 3) := by decide +kernel
theorem dX1_carryCall_26 : decode cX1_carryCall 26 = .ok (.aload_n 0, 1) := by decide +kernel
theorem dX1_carryCall_27 : decode cX1_carryCall 27 = .ok (.getfield 45, 3) := by decide +kernel
theorem dX1_carryCall_30 : decode cX1_carryCall 30 = .ok (.aload_n 0, 1) := by decide +kernel
theorem dX1_carryCall_31 : decode cX1_carryCall 31 = .ok (.aload_n 0, 1) := by decide +kernel
theorem dX1_carryCall_32 : decode cX1_carryCall 32 = .ok (.getfield 33, 3) := by decide +kernel
theorem dX1_carryCall_35 : decode cX1_carryCall 35 = .ok (.iload_n 1, 1) := by decide +kernel
theorem dX1_carryCall_36 : decode cX1_carryCall 36 = .ok (.invokevirtual 77, 3) := by decide +kernel
theorem dX1_carryCall_39 : decode cX1_carryCall 39 = .ok (.invokevirtual 104, 3) := by decide +kernel
theorem dX1_carryCall_42 : decode cX1_carryCall 42 = .ok (.iload_n 2, 1) := by decide +kernel
theorem dX1_carryCall_43 : decode cX1_carryCall 43 = .ok (.invokestatic 81, 3) := by decide +kernel
theorem dX1_carryCall_46 : decode cX1_carryCall 46 = .ok (.iload_n 1, 1) := by decide +kernel
theorem dX1_carryCall_47 : decode cX1_carryCall 47 = .ok (.invokevirtual 97, 3) := by decide +kernel
theorem dX1_carryCall_50 : decode cX1_carryCall 50 = .ok (.return_, 1) := by decide +kernel
set_option maxRecDepth 20000 in
theorem ggX1_liftCall_X4_get : GoodIn wsX1_liftCall wsX4_get := goodIn_r _ [9, 10, 40] (by decide +kernel) (by decide +kernel)
set_option maxRecDepth 20000 in
theorem gX1_liftCall_X4_get : GoodIn wsX1_liftCall (wsV RX1 77 RX4 yX4_get wsX4_get) := goodIn_app (goodIn_of _ (by decide +kernel)) ggX1_liftCall_X4_get
set_option maxRecDepth 20000 in
theorem ggX1_liftCall_X1_boardOf : GoodIn wsX1_liftCall wsX1_boardOf := goodIn_r _ [15, 16, 24, 25, 26, 27, 28, 29, 30, 31, 32, 33, 34, 35, 36, 37, 38, 39] (by decide +kernel) (by decide +kernel)
set_option maxRecDepth 20000 in
theorem gX1_liftCall_X1_boardOf : GoodIn wsX1_liftCall (wsV RX1 104 RX1 yX1_boardOf wsX1_boardOf) := goodIn_app (goodIn_of _ (by decide +kernel)) ggX1_liftCall_X1_boardOf
set_option maxRecDepth 20000 in
theorem ggX1_liftCall_X5_link : GoodIn wsX1_liftCall wsX5_link := goodIn_r _ [19] (by decide +kernel) (by decide +kernel)
set_option maxRecDepth 20000 in
theorem gX1_liftCall_X5_link_n81 : GoodIn wsX1_liftCall (wsX5_link) := ggX1_liftCall_X5_link
set_option maxRecDepth 20000 in
theorem ggX1_liftCall_X4_set : GoodIn wsX1_liftCall wsX4_set := goodIn_r _ [23, 10, 40] (by decide +kernel) (by decide +kernel)
set_option maxRecDepth 20000 in
theorem gX1_liftCall_X4_set : GoodIn wsX1_liftCall (wsV RX1 97 RX4 yX4_set wsX4_set) := goodIn_app (goodIn_of _ (by decide +kernel)) ggX1_liftCall_X4_set
theorem dX1_liftCall_0 : decode cX1_liftCall 0 = .ok (.aload_n 0, 1) := by decide +kernel
theorem dX1_liftCall_1 : decode cX1_liftCall 1 = .ok (.getfield 36, 3) := by decide +kernel
theorem dX1_liftCall_4 : decode cX1_liftCall 4 = .ok (.iload_n 1, 1) := by decide +kernel
theorem dX1_liftCall_5 : decode cX1_liftCall 5 = .ok (.invokevirtual 77, 3) := by decide +kernel
theorem dX1_liftCall_8 : decode cX1_liftCall 8 = .ok (.istore_n 2, 1) := by decide +kernel
theorem dX1_liftCall_9 : decode cX1_liftCall 9 = .ok (.iload_n 2, 1) := by decide +kernel
theorem dX1_liftCall_10 : decode cX1_liftCall 10 = .ok (.ifCond .lt 56, 3) := by decide +kernel
theorem dX1_liftCall_13 : decode cX1_liftCall 13 = .ok (.aload_n 0, 1) := by decide +kernel
theorem dX1_liftCall_14 : decode cX1_liftCall 14 = .ok (.getfield 42, 3) := by decide +kernel
theorem dX1_liftCall_17 : decode cX1_liftCall 17 = .ok (.aload_n 0, 1) := by decide +kernel
theorem dX1_liftCall_18 : decode cX1_liftCall 18 = .ok (.iload_n 1, 1) := by decide +kernel
theorem dX1_liftCall_19 : decode cX1_liftCall 19 = .ok (.invokevirtual 104, 3) := by decide +kernel
theorem dX1_liftCall_22 : decode cX1_liftCall 22 = .ok (.iload_n 2, 1) := by decide +kernel
theorem dX1_liftCall_23 : decode cX1_liftCall 23 = .ok (.invokestatic 81, 3) := by decide +kernel
theorem dX1_liftCall_26 : decode cX1_liftCall 26 = .ok (.bipush (-6), 2) := by decide +kernel
theorem dX1_liftCall_28 : decode cX1_liftCall 28 = .ok (.invokevirtual 97, 3) := by decide +kernel
theorem dX1_liftCall_31 : decode cX1_liftCall 31 = .ok (.aload_n 0, 1) := by decide +kernel
theorem dX1_liftCall_32 : decode cX1_liftCall 32 = .ok (.getfield 45, 3) := by decide +kernel
theorem dX1_liftCall_35 : decode cX1_liftCall 35 = .ok (.aload_n 0, 1) := by decide +kernel
theorem dX1_liftCall_36 : decode cX1_liftCall 36 = .ok (.aload_n 0, 1) := by decide +kernel
theorem dX1_liftCall_37 : decode cX1_liftCall 37 = .ok (.getfield 33, 3) := by decide +kernel
theorem dX1_liftCall_40 : decode cX1_liftCall 40 = .ok (.iload_n 1, 1) := by decide +kernel
theorem dX1_liftCall_41 : decode cX1_liftCall 41 = .ok (.invokevirtual 77, 3) := by decide +kernel
theorem dX1_liftCall_44 : decode cX1_liftCall 44 = .ok (.invokevirtual 104, 3) := by decide +kernel
theorem dX1_liftCall_47 : decode cX1_liftCall 47 = .ok (.iload_n 2, 1) := by decide +kernel
theorem dX1_liftCall_48 : decode cX1_liftCall 48 = .ok (.invokestatic 81, 3) := by decide +kernel
theorem dX1_liftCall_51 : decode cX1_liftCall 51 = .ok (.bipush (-6), 2) := by decide +kernel
theorem dX1_liftCall_53 : decode cX1_liftCall 53 = .ok (.invokevirtual 97, 3) := by decide +kernel
theorem dX1_liftCall_56 : decode cX1_liftCall 56 = .ok (.aload_n 0, 1) := by decide +kernel
theorem dX1_liftCall_57 : decode cX1_liftCall 57 = .ok (.getfield 36, 3) := by decide +kernel
theorem dX1_liftCall_60 : decode cX1_liftCall 60 = .ok (.iload_n 1, 1) := by decide +kernel
theorem dX1_liftCall_61 : decode cX1_liftCall 61 = .ok (.bipush (-6), 2) := by decide +kernel
theorem dX1_liftCall_63 : decode cX1_liftCall 63 = .ok (.invokevirtual 97, 3) := by decide +kernel
theorem dX1_liftCall_66 : decode cX1_liftCall 66 = .ok (.return_, 1) := by decide +kernel
set_option maxRecDepth 20000 in
theorem ggX1_firstLifted_X1_isInletBusy : GoodIn wsX1_firstLifted wsX1_isInletBusy := goodIn_r _ [7, 2, 8, 9, 10, 11, 12, 13, 14, 15, 16, 17, 18, 19, 20, 21, 22, 23, 24, 25, 26, 27, 28, 29, 30] (by decide +kernel) (by decide +kernel)
set_option maxRecDepth 20000 in
theorem gX1_firstLifted_X1_isInletBusy : GoodIn wsX1_firstLifted (wsV RX1 85 RX1 yX1_isInletBusy wsX1_isInletBusy) := goodIn_app (goodIn_of _ (by decide +kernel)) ggX1_firstLifted_X1_isInletBusy
set_option maxRecDepth 20000 in
theorem ggX1_firstLifted_X4_get : GoodIn wsX1_firstLifted wsX4_get := goodIn_r _ [12, 13, 30] (by decide +kernel) (by decide +kernel)
set_option maxRecDepth 20000 in
theorem gX1_firstLifted_X4_get : GoodIn wsX1_firstLifted (wsV RX1 77 RX4 yX4_get wsX4_get) := goodIn_app (goodIn_of _ (by decide +kernel)) ggX1_firstLifted_X4_get
theorem dX1_firstLifted_0 : decode cX1_firstLifted 0 = .ok (.bipush (-6), 2) := by decide +kernel
theorem dX1_firstLifted_2 : decode cX1_firstLifted 2 = .ok (.istore_n 1, 1) := by decide +kernel
theorem dX1_firstLifted_3 : decode cX1_firstLifted 3 = .ok (.iconst 0, 1) := by decide +kernel
theorem dX1_firstLifted_4 : decode cX1_firstLifted 4 = .ok (.istore_n 2, 1) := by decide +kernel
theorem dX1_firstLifted_5 : decode cX1_firstLifted 5 = .ok (.iload_n 2, 1) := by decide +kernel
theorem dX1_firstLifted_6 : decode cX1_firstLifted 6 = .ok (.bipush 48, 2) := by decide +kernel
theorem dX1_firstLifted_8 : decode cX1_firstLifted 8 = .ok (.if_icmp .ge 53, 3) := by decide +kernel
theorem dX1_firstLifted_11 : decode cX1_firstLifted 11 = .ok (.aload_n 0, 1) := by decide +kernel
theorem dX1_firstLifted_12 : decode cX1_firstLifted 12 = .ok (.iload_n 2, 1) := by decide +kernel
theorem dX1_firstLifted_13 : decode cX1_firstLifted 13 = .ok (.invokevirtual 85, 3) := by decide +kernel
theorem dX1_firstLifted_16 : decode cX1_firstLifted 16 = .ok (.ifCond .eq 39, 3) := by decide +kernel
theorem dX1_firstLifted_19 : decode cX1_firstLifted 19 = .ok (.aload_n 0, 1) := by decide +kernel
theorem dX1_firstLifted_20 : decode cX1_firstLifted 20 = .ok (.getfield 36, 3) := by decide +kernel
theorem dX1_firstLifted_23 : decode cX1_firstLifted 23 = .ok (.iload_n 2, 1) := by decide +kernel
theorem dX1_firstLifted_24 : decode cX1_firstLifted 24 = .ok (.invokevirtual 77, 3) := by decide +kernel
theorem dX1_firstLifted_27 : decode cX1_firstLifted 27 = .ok (.ifCond .ge 28, 3) := by decide +kernel
theorem dX1_firstLifted_30 : decode cX1_firstLifted 30 = .ok (.iload_n 1, 1) := by decide +kernel
theorem dX1_firstLifted_31 : decode cX1_firstLifted 31 = .ok (.ifCond .lt 22, 3) := by decide +kernel
theorem dX1_firstLifted_34 : decode cX1_firstLifted 34 = .ok (.aload_n 0, 1) := by decide +kernel
theorem dX1_firstLifted_35 : decode cX1_firstLifted 35 = .ok (.getfield 29, 3) := by decide +kernel
theorem dX1_firstLifted_38 : decode cX1_firstLifted 38 = .ok (.iload_n 2, 1) := by decide +kernel
theorem dX1_firstLifted_39 : decode cX1_firstLifted 39 = .ok (.invokevirtual 77, 3) := by decide +kernel
theorem dX1_firstLifted_42 : decode cX1_firstLifted 42 = .ok (.aload_n 0, 1) := by decide +kernel
theorem dX1_firstLifted_43 : decode cX1_firstLifted 43 = .ok (.getfield 29, 3) := by decide +kernel
theorem dX1_firstLifted_46 : decode cX1_firstLifted 46 = .ok (.iload_n 1, 1) := by decide +kernel
theorem dX1_firstLifted_47 : decode cX1_firstLifted 47 = .ok (.invokevirtual 77, 3) := by decide +kernel
theorem dX1_firstLifted_50 : decode cX1_firstLifted 50 = .ok (.if_icmp .ge 5, 3) := by decide +kernel
theorem dX1_firstLifted_53 : decode cX1_firstLifted 53 = .ok (.iload_n 2, 1) := by decide +kernel
theorem dX1_firstLifted_54 : decode cX1_firstLifted 54 = .ok (.istore_n 1, 1) := by decide +kernel
theorem dX1_firstLifted_55 : decode cX1_firstLifted 55 = .ok (.iinc 2 1, 3) := by decide +kernel
theorem dX1_firstLifted_58 : decode cX1_firstLifted 58 = .ok (.goto (-53), 3) := by decide +kernel
theorem dX1_firstLifted_61 : decode cX1_firstLifted 61 = .ok (.iload_n 1, 1) := by decide +kernel
theorem dX1_firstLifted_62 : decode cX1_firstLifted 62 = .ok (.ireturn, 1) := by decide +kernel
end
section
/-! ClosExchange$Row, java.util.Arrays.fill, java.lang.Integer.bitCount -/
abbrev rm_X4_get : Room := { frames := 0, cells := 0, slots := 0, locals := 0 }
abbrev rm_X4_set : Room := { frames := 0, cells := 0, slots := 0, locals := 0 }
abbrev rm_J7_fill : Room := { frames := 0, cells := 0, slots := 0, locals := 0 }
abbrev rm_X4_empty : Room := { frames := 1, cells := 0, slots := 0, locals := 24 }
abbrev rm_X4_copyFrom : Room := { frames := 1, cells := 0, slots := 0, locals := 30 }
theorem inX4_get : ∀ w ∈ u_ws RX4 TX4 1, w ∈ wsX4_get := fun w h => List.mem_cons_of_mem _ (List.mem_append_right _ h)
theorem inX4_set : ∀ w ∈ u_ws RX4 TX4 1, w ∈ wsX4_set := fun w h => List.mem_cons_of_mem _ (List.mem_append_right _ h)
theorem inX4_empty : ∀ w ∈ u_ws RX4 TX4 1, w ∈ wsX4_empty := fun w h => List.mem_cons_of_mem _ (List.mem_append_right _ h)
theorem inX4_copyFrom : ∀ w ∈ u_ws RX4 TX4 1, w ∈ wsX4_copyFrom := fun w h => List.mem_cons_of_mem _ (List.mem_append_right _ h)
theorem row_in {L : Nat} (hL : L < 2147483648) {i : Int32} (h0 : ¬ i < 0) (h1 : ¬ Int32.ofNat L ≤ i) : vp_in i L := by
  rcases pk_ix i (n := L) (by omega) with h | h | ⟨j, hj, e⟩
  · exact absurd h h0
  · exact absurd h h1
  · rw [e]; exact vp_in_nI hj (by omega)
set_option maxRecDepth 100000 in
set_option maxHeartbeats 4000000 in
theorem c_X4_get (l : Launch) (D : va_G) (cI cN : ClassId) (a b L : Nat) (hL : L < 2147483648) (sz : Nat) (f : Nat → Int32) (x1 : Int32) : CtP l D cI cN yX4_get wsX4_get rm_X4_get [.ref a, .int x1] (rwW cI a b L f) sz (rget f L x1) := by
  refine mP (cc := cX4_get) (maxL := 2) (ty := .int) (by decide) rfl rfl (Nat.le_of_ble_eq_true rfl) ?_
  intro p e s m args below meth c Q S hK hP hS hret ls hl
  obtain ⟨hx, hb, hml, hown, hts⟩ := id S
  have hl : lv_has ls 2 [(0, .ref a), (1, .int x1)] := hl
  generalize hf : rget f L x1 = r0 at hret
  unfold rget at hf
  refine lv_iload_n hx hb dX4_get_0 rfl (lv_at hl 1 rfl) ?_
  refine lv_if_lt (tgt := 22) hx hb dX4_get_1 (by decide) (fun c1 => ?_) (fun c1 => ?_)
  · have hf := it_t hf c1
    subst hf
    refine lv_bipush (v := (-6 : Int32)) hx hb dX4_get_22 (by decide) ?_
    exact hret _ _ ls _ dX4_get_24 rfl hS
  · have hf := it_f hf c1
    refine lv_iload_n hx hb dX4_get_4 rfl (lv_at hl 1 rfl) ?_
    refine lv_aload_n hx hb dX4_get_5 rfl (lv_at hl 0 rfl) ?_
    refine va_get (D := D) (ci := 4) (v := .ref b) (C := RX4) (T := TX4) (N := 1) hx hb hts inX4_get hown hK.1 hP 0 rfl rfl 0 (by decide) (hts (.fieldLink RX4 15 "ClosExchange$Row" "cells" "[I") (List.mem_of_getElem? (i := 1) rfl)) (fun _ h9 => h9) rfl dX4_get_6 ?_
    refine va_alen (v := Int32.ofNat L) hx hb hK.1 hP 1 0 rfl rfl rfl dX4_get_9 ?_
    refine lv_icmp_ge (tgt := 22) hx hb dX4_get_10 (by decide) (fun c2 => ?_) (fun c2 => ?_)
    · have hf := it_t hf c2
      subst hf
      refine lv_bipush (v := (-6 : Int32)) hx hb dX4_get_22 (by decide) ?_
      exact hret _ _ ls _ dX4_get_24 rfl hS
    · have hf := it_f hf c2
      refine lv_aload_n hx hb dX4_get_13 rfl (lv_at hl 0 rfl) ?_
      refine va_get (D := D) (ci := 4) (v := .ref b) (C := RX4) (T := TX4) (N := 1) hx hb hts inX4_get hown hK.1 hP 0 rfl rfl 0 (by decide) (hts (.fieldLink RX4 15 "ClosExchange$Row" "cells" "[I") (List.mem_of_getElem? (i := 1) rfl)) (fun _ h9 => h9) rfl dX4_get_14 ?_
      refine lv_iload_n hx hb dX4_get_17 rfl (lv_at hl 1 rfl) ?_
      refine va_iald hx hb hK.1 hP 1 0 rfl rfl (row_in hL c1 c2) dX4_get_18 ?_
      refine lv_goto (tgt := 24) hx hb dX4_get_19 (by decide) ?_
      subst hf
      exact hret _ _ ls _ dX4_get_24 rfl hS
set_option maxRecDepth 100000 in
set_option maxHeartbeats 4000000 in
theorem c_X4_set (l : Launch) (D : va_G) (cI cN : ClassId) (a b L : Nat) (hL : L < 2147483648) (sz : Nat) (f : Nat → Int32) (x1 x2 : Int32) : CtV l D cI cN yX4_set wsX4_set rm_X4_set 0 0 [.ref a, .int x1, .int x2] (rwW cI a b L f) sz (rwW cI a b L (rset f L x1 x2)) := by
  refine mV (cc := cX4_set) (maxL := 3) (by decide) rfl (Nat.le_of_ble_eq_true rfl) ?_
  intro p e s m args below meth c Q A S _ hK hP hD hS hA hret ls hl
  obtain ⟨hx, hb, hml, hown, hts⟩ := id S
  have hl : lv_has ls 3 [(0, .ref a), (1, .int x1), (2, .int x2)] := hl
  generalize hf : rset f L x1 x2 = n1 at hret
  unfold rset at hf
  refine lv_iload_n hx hb dX4_set_0 rfl (lv_at hl 1 rfl) ?_
  refine lv_if_lt (tgt := 20) hx hb dX4_set_1 (by decide) (fun c1 => ?_) (fun c1 => ?_)
  · have hf := it_t hf c1
    subst hf
    exact hret _ _ ls _ dX4_set_20 hP hD hS
  · have hf := it_f hf c1
    refine lv_iload_n hx hb dX4_set_4 rfl (lv_at hl 1 rfl) ?_
    refine lv_aload_n hx hb dX4_set_5 rfl (lv_at hl 0 rfl) ?_
    refine va_get (D := D) (ci := 4) (v := .ref b) (C := RX4) (T := TX4) (N := 1) hx hb hts inX4_set hown hK.1 hP 0 rfl rfl 0 (by decide) (hts (.fieldLink RX4 15 "ClosExchange$Row" "cells" "[I") (List.mem_of_getElem? (i := 1) rfl)) (fun _ h9 => h9) rfl dX4_set_6 ?_
    refine va_alen (v := Int32.ofNat L) hx hb hK.1 hP 1 0 rfl rfl rfl dX4_set_9 ?_
    refine lv_icmp_ge (tgt := 20) hx hb dX4_set_10 (by decide) (fun c2 => ?_) (fun c2 => ?_)
    · have hf := it_t hf c2
      subst hf
      exact hret _ _ ls _ dX4_set_20 hP hD hS
    · have hf := it_f hf c2
      refine lv_aload_n hx hb dX4_set_13 rfl (lv_at hl 0 rfl) ?_
      refine va_get (D := D) (ci := 4) (v := .ref b) (C := RX4) (T := TX4) (N := 1) hx hb hts inX4_set hown hK.1 hP 0 rfl rfl 0 (by decide) (hts (.fieldLink RX4 15 "ClosExchange$Row" "cells" "[I") (List.mem_of_getElem? (i := 1) rfl)) (fun _ h9 => h9) rfl dX4_set_14 ?_
      refine lv_iload_n hx hb dX4_set_17 rfl (lv_at hl 1 rfl) ?_
      refine lv_iload_n hx hb dX4_set_18 rfl (lv_at hl 2 rfl) ?_
      refine giast (wf := rwW cI a b L (upd f x1.toNatClampNeg x2)) hx hb hK.1 hP hD hS 1 0 rfl rfl (row_in hL c1 c2) dX4_set_19 rfl (fun H locs hP hD hS => ?_)
      subst hf
      exact hret _ _ ls _ dX4_set_20 hP hD hS
set_option maxRecDepth 100000 in
set_option maxHeartbeats 4000000 in
/-- Arrays.fill(int[], int) -/
theorem c_J7_fill (l : Launch) (D : va_G) (cI cN : ClassId) (b L : Nat) (hL : L < 2147483648) (sz : Nat) (f : Nat → Int32) (x1 : Int32) : CtV l D cI cN yJ7_fill_53178 wsJ7_fill_53178 rm_J7_fill 0 0 [.ref b, .int x1] [(b, .inl (cI, L, .inl f))] sz [(b, .inl (cI, L, .inl (fun _ => x1)))] := by
  refine mV (cc := cJ7_fill_53178) (maxL := 4) (by decide) rfl (Nat.le_of_ble_eq_true rfl) ?_
  intro p e s m args below meth c Q A S _ hK hP hD hS hA hret ls hl
  obtain ⟨hx, hb, hml, hown, hts⟩ := id S
  have hl : lv_has ls 4 [(0, .ref b), (1, .int x1)] := hl
  refine lv_iconst (v := (0 : Int32)) hx hb dJ7_fill_53178_0 (by decide) ?_
  refine lv_istore_n (lv' := [(2, .int (0 : Int32)), (0, .ref b), (1, .int x1)]) hx hb dJ7_fill_53178_1 rfl hl (by decide) rfl (fun ls hl => ?_)
  refine lv_aload_n hx hb dJ7_fill_53178_2 rfl (lv_at hl 1 rfl) ?_
  refine va_alen (v := Int32.ofNat L) hx hb hK.1 hP 0 0 rfl rfl rfl dJ7_fill_53178_3 ?_
  refine lv_istore_n (lv' := [(3, .int (Int32.ofNat L)), (2, .int (0 : Int32)), (0, .ref b), (1, .int x1)]) hx hb dJ7_fill_53178_4 rfl hl (by decide) rfl (fun ls hl => ?_)
  have loop : ∀ (k j : Nat), j + k = L → ∀ (g : Nat → Int32), (∀ i, i < j → g i = x1) → ∀ (H : Heap) (locs : List Loc) (ls : Array Slot), va_P D vwCl [(b, .inl (cI, L, .inl g))] H → va_D A [(b, .inl (cI, L, .inl g))] → va_S A s.heap H locs → lv_has ls 4 [(3, .int (Int32.ofNat L)), (2, .int (nI j)), (0, .ref b), (1, .int x1)] → W p l e (headSpec wsJ7_fill_53178 rm_J7_fill).room s m args below meth c H locs 0 0 Q (F0 m 5 ls []) := by
    intro k
    induction k with
    | zero =>
      intro j hj g hg H locs ls hP hD hS hl
      refine lv_iload_n hx hb dJ7_fill_53178_5 rfl (lv_at hl 1 rfl) ?_
      refine lv_iload_n hx hb dJ7_fill_53178_6 rfl (lv_at hl 0 rfl) ?_
      refine lv_icmp_ge (tgt := 20) hx hb dJ7_fill_53178_7 (by decide) (fun _ => ?_) (fun c1 => ?_)
      · exact hret H locs ls _ dJ7_fill_53178_20 (P_ce hP (k := 0) rfl (g := fun _ => x1) (fun i hi => hg i (by omega))) (hD.set (p := 0) rfl) hS
      · exact absurd (nI_le (a := L) (b := j) (by omega) (by omega)) c1
    | succ k ih =>
      intro j hj g hg H locs ls hP hD hS hl
      refine lv_iload_n hx hb dJ7_fill_53178_5 rfl (lv_at hl 1 rfl) ?_
      refine lv_iload_n hx hb dJ7_fill_53178_6 rfl (lv_at hl 0 rfl) ?_
      refine lv_icmp_ge (tgt := 20) hx hb dJ7_fill_53178_7 (by decide) (fun c1 => ?_) (fun _ => ?_)
      · exact absurd c1 (nI_ge (a := j) (b := L) (by omega) (by omega))
      · refine lv_aload_n hx hb dJ7_fill_53178_10 rfl (lv_at hl 2 rfl) ?_
        refine lv_iload_n hx hb dJ7_fill_53178_11 rfl (lv_at hl 1 rfl) ?_
        refine lv_iload_n hx hb dJ7_fill_53178_12 rfl (lv_at hl 3 rfl) ?_
        refine giast (wf := [(b, .inl (cI, L, .inl (upd g (nI j).toNatClampNeg x1)))]) hx hb hK.1 hP hD hS 0 0 rfl rfl (vp_in_nI (by omega) (by omega)) dJ7_fill_53178_13 rfl (fun H locs hP hD hS => ?_)
        refine lv_iinc (v := nI j + 1) (lv' := [(2, .int (nI j + 1)), (3, .int (Int32.ofNat L)), (0, .ref b), (1, .int x1)]) hx hb dJ7_fill_53178_14 hl (k := 1) rfl rfl (by decide) rfl (fun ls hl => ?_)
        refine lv_goto (tgt := 5) hx hb dJ7_fill_53178_17 (by decide) ?_
        refine ih (j + 1) (by omega) (upd g (nI j).toNatClampNeg x1) (fun i hi => ?_) H locs ls hP hD hS ?_
        · rw [nI_clamp (by omega)]
          unfold upd
          by_cases hij : i = j
          · rw [if_pos hij]
          · rw [if_neg hij]; exact hg i (by omega)
        · rw [← nI_1]; exact lv_sub hl [1, 0, 2, 3] rfl
  exact loop L 0 (by omega) f (fun i hi => absurd hi (by omega)) _ _ _ hP hD hS (by rw [nI_0]; exact hl)
set_option maxRecDepth 100000 in
set_option maxHeartbeats 4000000 in
theorem c_X4_empty (l : Launch) (D : va_G) (cI cN : ClassId) (a b L : Nat) (hL : L < 2147483648) (sz : Nat) (f : Nat → Int32) : CtV l D cI cN yX4_empty wsX4_empty rm_X4_empty 0 0 [.ref a] (rwW cI a b L f) sz (rwW cI a b L rowN) := by
  refine mV (cc := cX4_empty) (maxL := 1) (by decide) rfl (Nat.le_of_ble_eq_true rfl) ?_
  intro p e s m args below meth c Q A S _ hK hP hD hS hA hret ls hl
  obtain ⟨hx, hb, hml, hown, hts⟩ := id S
  have hl : lv_has ls 1 [(0, .ref a)] := hl
  refine lv_aload_n hx hb dX4_empty_0 rfl (lv_at hl 0 rfl) ?_
  refine va_get (D := D) (ci := 4) (v := .ref b) (C := RX4) (T := TX4) (N := 1) hx hb hts inX4_empty hown hK.1 hP 0 rfl rfl 0 (by decide) (hts (.fieldLink RX4 15 "ClosExchange$Row" "cells" "[I") (List.mem_of_getElem? (i := 1) rfl)) (fun _ h9 => h9) rfl dX4_empty_1 ?_
  refine lv_bipush (v := (-6 : Int32)) hx hb dX4_empty_4 (by decide) ?_
  refine cSv (As := [.ref b, .int (-6 : Int32)]) (rest := []) (wr := pickW (rwW cI a b L f) [0]) (wf := rwW cI a b L rowN) S (c_J7_fill l D cI cN b L hL _ f (-6)) (va_cwS 2 hts gX4_empty_J7_fill_53178 rfl rfl rfl (by decide +kernel) ⟨Nat.le_of_ble_eq_true rfl, Nat.le_of_ble_eq_true rfl⟩) hK hP hD hS hA [1] [0] [0, 1] rfl rfl rfl rfl (by decide) rfl rfl rfl hl.1 rfl (Nat.le_of_ble_eq_true rfl) dX4_empty_6 ⟨Nat.zero_le _, Nat.zero_le _⟩ (fun H locs hP hD hS => ?_)
  exact hret _ _ ls _ dX4_empty_9 hP hD hS
set_option maxRecDepth 100000 in
set_option maxHeartbeats 4000000 in
theorem c_X4_copyFrom (l : Launch) (D : va_G) (cI cN : ClassId) (a b a2 b2 L : Nat) (hL : L < 2147483648) (sz : Nat) (f g : Nat → Int32) : CtV l D cI cN yX4_copyFrom wsX4_copyFrom rm_X4_copyFrom 0 0 [.ref a, .ref a2] (rwW cI a b L f ++ rwW cI a2 b2 L g) sz (rwW cI a b L g ++ rwW cI a2 b2 L g) := by
  refine mV (cc := cX4_copyFrom) (maxL := 2) (by decide) rfl (Nat.le_of_ble_eq_true rfl) ?_
  intro p e s m args below meth c Q A S _ hK hP hD hS hA hret ls hl
  obtain ⟨hx, hb, hml, hown, hts⟩ := id S
  have hl : lv_has ls 2 [(0, .ref a), (1, .ref a2)] := hl
  refine lv_aload_n hx hb dX4_copyFrom_0 rfl (lv_at hl 1 rfl) ?_
  refine va_get (D := D) (ci := 4) (v := .ref b2) (C := RX4) (T := TX4) (N := 1) hx hb hts inX4_copyFrom hown hK.1 hP 2 rfl rfl 0 (by decide) (hts (.fieldLink RX4 15 "ClosExchange$Row" "cells" "[I") (List.mem_of_getElem? (i := 1) rfl)) (fun _ h9 => h9) rfl dX4_copyFrom_1 ?_
  refine lv_iconst (v := (0 : Int32)) hx hb dX4_copyFrom_4 (by decide) ?_
  refine lv_aload_n hx hb dX4_copyFrom_5 rfl (lv_at hl 0 rfl) ?_
  refine va_get (D := D) (ci := 4) (v := .ref b) (C := RX4) (T := TX4) (N := 1) hx hb hts inX4_copyFrom hown hK.1 hP 0 rfl rfl 0 (by decide) (hts (.fieldLink RX4 15 "ClosExchange$Row" "cells" "[I") (List.mem_of_getElem? (i := 1) rfl)) (fun _ h9 => h9) rfl dX4_copyFrom_6 ?_
  refine lv_iconst (v := (0 : Int32)) hx hb dX4_copyFrom_9 (by decide) ?_
  refine lv_aload_n hx hb dX4_copyFrom_10 rfl (lv_at hl 0 rfl) ?_
  refine va_get (D := D) (ci := 4) (v := .ref b) (C := RX4) (T := TX4) (N := 1) hx hb hts inX4_copyFrom hown hK.1 hP 0 rfl rfl 0 (by decide) (hts (.fieldLink RX4 15 "ClosExchange$Row" "cells" "[I") (List.mem_of_getElem? (i := 1) rfl)) (fun _ h9 => h9) rfl dX4_copyFrom_11 ?_
  refine va_alen (v := Int32.ofNat L) hx hb hK.1 hP 1 0 rfl rfl rfl dX4_copyFrom_14 ?_
  refine lv_aload_n hx hb dX4_copyFrom_15 rfl (lv_at hl 1 rfl) ?_
  refine va_get (D := D) (ci := 4) (v := .ref b2) (C := RX4) (T := TX4) (N := 1) hx hb hts inX4_copyFrom hown hK.1 hP 2 rfl rfl 0 (by decide) (hts (.fieldLink RX4 15 "ClosExchange$Row" "cells" "[I") (List.mem_of_getElem? (i := 1) rfl)) (fun _ h9 => h9) rfl dX4_copyFrom_16 ?_
  refine va_alen (v := Int32.ofNat L) hx hb hK.1 hP 3 0 rfl rfl rfl dX4_copyFrom_19 ?_
  refine va_mmin hx hb (hml.trans hl.1.symm) hown (hts _ (List.mem_of_getElem? (i := 2) rfl)) (hts _ (List.mem_of_getElem? (i := 3) rfl)) (hts _ (List.mem_of_getElem? (i := 4) rfl)) (hts _ (List.mem_of_getElem? (i := 5) rfl)) (Nat.le_of_ble_eq_true rfl) (Nat.le_of_ble_eq_true rfl) (Nat.zero_le _) (Nat.zero_le _) dX4_copyFrom_20 ?_
  rw [ite_self]
  have hc : (Int32.ofNat L).toNatClampNeg = L := nI_clamp (n := L) (by omega)
  have h00 : (0 : Int32).toNatClampNeg = 0 := by decide
  refine va_copyi hx hb (hml.trans hl.1.symm) hown (hts _ (List.mem_of_getElem? (i := 6) rfl)) (hts _ (List.mem_of_getElem? (i := 7) rfl)) (hts _ (List.mem_of_getElem? (i := 8) rfl)) (hts _ (List.mem_of_getElem? (i := 9) rfl)) hK.1 hP hD hS 3 1 0 0 rfl rfl rfl rfl rfl (by decide) (by decide) (nI_pos (n := L) (by omega)) (by rw [hc, h00]; omega) (by rw [hc, h00]; omega) (fun _ _ => rfl) (Nat.le_of_ble_eq_true rfl) (Nat.le_of_ble_eq_true rfl) dX4_copyFrom_23 (fun H locs hP hD hS => ?_)
  refine hret H locs ls _ dX4_copyFrom_26 (P_ce hP (k := 1) rfl (g := g) (fun j hj => ?_)) (hD.set (p := 1) rfl) hS
  rw [hc, h00, pk_cpy_in (Nat.zero_le j) (by omega), Nat.sub_zero, Nat.zero_add]
end
section
/-! what loops may take at most -/
def FU : Nat := 1000000
theorem kc_bipush_m100 : (Int8.ofInt (-100)).toInt32 = (-100 : Int32) := by decide
theorem kc_bipush_m6 : (Int8.ofInt (-6)).toInt32 = (-6 : Int32) := by decide
theorem kc_bipush_m5 : (Int8.ofInt (-5)).toInt32 = (-5 : Int32) := by decide
theorem kc_bipush_m4 : (Int8.ofInt (-4)).toInt32 = (-4 : Int32) := by decide
theorem kc_bipush_m3 : (Int8.ofInt (-3)).toInt32 = (-3 : Int32) := by decide
theorem kc_bipush_m2 : (Int8.ofInt (-2)).toInt32 = (-2 : Int32) := by decide
theorem kc_bipush_6 : (Int8.ofInt (6)).toInt32 = (6 : Int32) := by decide
theorem kc_bipush_7 : (Int8.ofInt (7)).toInt32 = (7 : Int32) := by decide
theorem kc_bipush_8 : (Int8.ofInt (8)).toInt32 = (8 : Int32) := by decide
theorem kc_bipush_9 : (Int8.ofInt (9)).toInt32 = (9 : Int32) := by decide
theorem kc_bipush_10 : (Int8.ofInt (10)).toInt32 = (10 : Int32) := by decide
theorem kc_bipush_16 : (Int8.ofInt (16)).toInt32 = (16 : Int32) := by decide
theorem kc_bipush_31 : (Int8.ofInt (31)).toInt32 = (31 : Int32) := by decide
theorem kc_bipush_45 : (Int8.ofInt (45)).toInt32 = (45 : Int32) := by decide
theorem kc_bipush_47 : (Int8.ofInt (47)).toInt32 = (47 : Int32) := by decide
theorem kc_bipush_48 : (Int8.ofInt (48)).toInt32 = (48 : Int32) := by decide
theorem kc_bipush_55 : (Int8.ofInt (55)).toInt32 = (55 : Int32) := by decide
theorem kc_bipush_57 : (Int8.ofInt (57)).toInt32 = (57 : Int32) := by decide
theorem kc_bipush_59 : (Int8.ofInt (59)).toInt32 = (59 : Int32) := by decide
theorem kc_bipush_60 : (Int8.ofInt (60)).toInt32 = (60 : Int32) := by decide
theorem kc_bipush_63 : (Int8.ofInt (63)).toInt32 = (63 : Int32) := by decide
theorem kc_bipush_64 : (Int8.ofInt (64)).toInt32 = (64 : Int32) := by decide
theorem kc_bipush_99 : (Int8.ofInt (99)).toInt32 = (99 : Int32) := by decide
theorem kc_bipush_100 : (Int8.ofInt (100)).toInt32 = (100 : Int32) := by decide
theorem kc_bipush_105 : (Int8.ofInt (105)).toInt32 = (105 : Int32) := by decide
theorem kc_bipush_111 : (Int8.ofInt (111)).toInt32 = (111 : Int32) := by decide
theorem kc_bipush_112 : (Int8.ofInt (112)).toInt32 = (112 : Int32) := by decide
theorem kc_iconst_m1 : Int32.ofInt (-1) = (-1 : Int32) := by decide
theorem kc_iconst_0 : Int32.ofInt (0) = (0 : Int32) := by decide
theorem kc_iconst_1 : Int32.ofInt (1) = (1 : Int32) := by decide
theorem kc_iconst_2 : Int32.ofInt (2) = (2 : Int32) := by decide
theorem kc_iconst_3 : Int32.ofInt (3) = (3 : Int32) := by decide
theorem kc_iconst_4 : Int32.ofInt (4) = (4 : Int32) := by decide
theorem kc_iconst_5 : Int32.ofInt (5) = (5 : Int32) := by decide
theorem kc_sipush_154 : (Int16.ofInt (154)).toInt32 = (154 : Int32) := by decide
theorem kc_sipush_924 : (Int16.ofInt (924)).toInt32 = (924 : Int32) := by decide
theorem kc_sipush_930 : (Int16.ofInt (930)).toInt32 = (930 : Int32) := by decide
theorem kc_sipush_1078 : (Int16.ofInt (1078)).toInt32 = (1078 : Int32) := by decide
def fX5_link (x0 : Int32) (x1 : Int32) : Int32 :=
  ((x0 * (8 : Int32)) + x1)
def fX5_hasBit (x0 : Int32) (x1 : Int32) : Int32 :=
  if (x0 &&& ((1 : Int32) <<< (x1 &&& 31))) = (0 : Int32) then
   (0 : Int32)
  else
   (1 : Int32)
def fX5_within (x0 : Int32) (x1 : Int32) (x2 : Int32) : Int32 :=
  if x0 < x1 then
   (0 : Int32)
  else
   if x2 < x0 then
    (0 : Int32)
   else
    (1 : Int32)
def fX1_isLine (n : OS) (x1 : Int32) : Int32 :=
  if x1 < (0 : Int32) then
   (0 : Int32)
  else
   if ((n.1 0) * (n.1 1)) ≤ x1 then
    (0 : Int32)
   else
    (1 : Int32)
def fX1_isBoard (n : OS) (x1 : Int32) : Int32 :=
  if x1 < (0 : Int32) then
   (0 : Int32)
  else
   if (n.1 0) ≤ x1 then
    (0 : Int32)
   else
    (1 : Int32)
def fX1_isMiddle (n : OS) (x1 : Int32) : Int32 :=
  if x1 < (0 : Int32) then
   (0 : Int32)
  else
   if (n.1 2) ≤ x1 then
    (0 : Int32)
   else
    (1 : Int32)
def fX1_isInletBusy (n : OS) (x1 : Int32) : Int32 :=
  if (rget (n.2 0) 48 x1) < (0 : Int32) then
   (0 : Int32)
  else
   (1 : Int32)
def fX1_isOutletBusy (n : OS) (x1 : Int32) : Int32 :=
  if (rget (n.2 3) 48 x1) < (0 : Int32) then
   (0 : Int32)
  else
   (1 : Int32)
def fX1_boardOf (n : OS) (x1 : Int32) : Int32 :=
  if (n.1 1) ≤ (0 : Int32) then
   (0 : Int32)
  else
   (x1 / (n.1 1))
def fX1_countCalls_4 (n : OS) : Nat → Int32 → Int32 → Option (Int32)
  | 0, _, _ => none
  | k + 1, x1, x2 =>
    if (48 : Int32) ≤ x2 then
     some x1
    else
     if (rget (n.2 0) 48 x2) < (0 : Int32) then
      fX1_countCalls_4 n k (x1 + (0 : Int32)) (x2 + (1 : Int32))
     else
      fX1_countCalls_4 n k (x1 + (1 : Int32)) (x2 + (1 : Int32))
theorem fX1_countCalls_4_z (n : OS) (x1 : Int32) (x2 : Int32) : fX1_countCalls_4 n 0 x1 x2 = none := rfl
theorem fX1_countCalls_4_s (n : OS) (k : Nat) (x1 : Int32) (x2 : Int32) : fX1_countCalls_4 n (k + 1) x1 x2 = (
    if (48 : Int32) ≤ x2 then
     some x1
    else
     if (rget (n.2 0) 48 x2) < (0 : Int32) then
      fX1_countCalls_4 n k (x1 + (0 : Int32)) (x2 + (1 : Int32))
     else
      fX1_countCalls_4 n k (x1 + (1 : Int32)) (x2 + (1 : Int32))) := rfl
def fX1_countCalls (n : OS) : Option (Int32) :=
  fX1_countCalls_4 n FU (0 : Int32) (0 : Int32)
def fX1_findInlet_8 (n : OS) (x1 : Int32) : Nat → Int32 → Option (Int32)
  | 0, _ => none
  | k + 1, x2 =>
    if (48 : Int32) ≤ x2 then
     some (-1 : Int32)
    else
     if ¬ (rget (n.2 0) 48 x2) = x1 then
      fX1_findInlet_8 n x1 k (x2 + (1 : Int32))
     else
      some x2
theorem fX1_findInlet_8_z (n : OS) (x1 : Int32) (x2 : Int32) : fX1_findInlet_8 n x1 0 x2 = none := rfl
theorem fX1_findInlet_8_s (n : OS) (x1 : Int32) (k : Nat) (x2 : Int32) : fX1_findInlet_8 n x1 (k + 1) x2 = (
    if (48 : Int32) ≤ x2 then
     some (-1 : Int32)
    else
     if ¬ (rget (n.2 0) 48 x2) = x1 then
      fX1_findInlet_8 n x1 k (x2 + (1 : Int32))
     else
      some x2) := rfl
def fX1_findInlet (n : OS) (x1 : Int32) : Option (Int32) :=
  if (0 : Int32) ≤ x1 then
   fX1_findInlet_8 n x1 FU (0 : Int32)
  else
   some (-1 : Int32)
def fX1_loadOf_4 (n : OS) (x1 : Int32) : Nat → Int32 → Int32 → Option (Int32)
  | 0, _, _ => none
  | k + 1, x2, x3 =>
    if (n.1 0) ≤ x3 then
     some x2
    else
     if (rget (n.2 4) 64 (fX5_link x3 x1)) < (0 : Int32) then
      fX1_loadOf_4 n x1 k (x2 + (0 : Int32)) (x3 + (1 : Int32))
     else
      fX1_loadOf_4 n x1 k (x2 + (1 : Int32)) (x3 + (1 : Int32))
theorem fX1_loadOf_4_z (n : OS) (x1 : Int32) (x2 : Int32) (x3 : Int32) : fX1_loadOf_4 n x1 0 x2 x3 = none := rfl
theorem fX1_loadOf_4_s (n : OS) (x1 : Int32) (k : Nat) (x2 : Int32) (x3 : Int32) : fX1_loadOf_4 n x1 (k + 1) x2 x3 = (
    if (n.1 0) ≤ x3 then
     some x2
    else
     if (rget (n.2 4) 64 (fX5_link x3 x1)) < (0 : Int32) then
      fX1_loadOf_4 n x1 k (x2 + (0 : Int32)) (x3 + (1 : Int32))
     else
      fX1_loadOf_4 n x1 k (x2 + (1 : Int32)) (x3 + (1 : Int32))) := rfl
def fX1_loadOf (n : OS) (x1 : Int32) : Option (Int32) :=
  fX1_loadOf_4 n x1 FU (0 : Int32) (0 : Int32)
def fX1_fullestBoard_25 (n : OS) (x1 : Int32) (x2 : Int32) : Nat → Int32 → Int32 → Int32 → Option (Int32 × Int32)
  | 0, _, _, _ => none
  | k + 1, x3, x4, x5 =>
    if ((x2 + (1 : Int32)) * (n.1 1)) ≤ x5 then
     some (x3, x4)
    else
     jn (α := Int32) (
      if (fX1_isInletBusy n x5) = (0 : Int32) then
       (0 : Int32)
      else
       (1 : Int32)) (fun v4 =>
     if (fX1_isOutletBusy n x5) = (0 : Int32) then
      fX1_fullestBoard_25 n x1 x2 k (x3 + v4) (x4 + (0 : Int32)) (x5 + (1 : Int32))
     else
      fX1_fullestBoard_25 n x1 x2 k (x3 + v4) (x4 + (1 : Int32)) (x5 + (1 : Int32)))
theorem fX1_fullestBoard_25_z (n : OS) (x1 : Int32) (x2 : Int32) (x3 : Int32) (x4 : Int32) (x5 : Int32) : fX1_fullestBoard_25 n x1 x2 0 x3 x4 x5 = none := rfl
theorem fX1_fullestBoard_25_s (n : OS) (x1 : Int32) (x2 : Int32) (k : Nat) (x3 : Int32) (x4 : Int32) (x5 : Int32) : fX1_fullestBoard_25 n x1 x2 (k + 1) x3 x4 x5 = (
    if ((x2 + (1 : Int32)) * (n.1 1)) ≤ x5 then
     some (x3, x4)
    else
     jn (α := Int32) (
      if (fX1_isInletBusy n x5) = (0 : Int32) then
       (0 : Int32)
      else
       (1 : Int32)) (fun v4 =>
     if (fX1_isOutletBusy n x5) = (0 : Int32) then
      fX1_fullestBoard_25 n x1 x2 k (x3 + v4) (x4 + (0 : Int32)) (x5 + (1 : Int32))
     else
      fX1_fullestBoard_25 n x1 x2 k (x3 + v4) (x4 + (1 : Int32)) (x5 + (1 : Int32)))) := rfl
def fX1_fullestBoard_4 (n : OS) : Nat → Int32 → Int32 → Option (Int32)
  | 0, _, _ => none
  | k + 1, x1, x2 =>
    if (n.1 0) ≤ x2 then
     some x1
    else
     Option.bind (α := Int32 × Int32) (fX1_fullestBoard_25 n x1 x2 FU (0 : Int32) (0 : Int32) (x2 * (n.1 1))) (fun v6 =>
     fX1_fullestBoard_4 n k (if x1 < (if v6.1 < v6.2 then v6.2 else v6.1) then (if v6.1 < v6.2 then v6.2 else v6.1) else x1) (x2 + (1 : Int32)))
theorem fX1_fullestBoard_4_z (n : OS) (x1 : Int32) (x2 : Int32) : fX1_fullestBoard_4 n 0 x1 x2 = none := rfl
theorem fX1_fullestBoard_4_s (n : OS) (k : Nat) (x1 : Int32) (x2 : Int32) : fX1_fullestBoard_4 n (k + 1) x1 x2 = (
    if (n.1 0) ≤ x2 then
     some x1
    else
     Option.bind (α := Int32 × Int32) (fX1_fullestBoard_25 n x1 x2 FU (0 : Int32) (0 : Int32) (x2 * (n.1 1))) (fun v6 =>
     fX1_fullestBoard_4 n k (if x1 < (if v6.1 < v6.2 then v6.2 else v6.1) then (if v6.1 < v6.2 then v6.2 else v6.1) else x1) (x2 + (1 : Int32)))) := rfl
def fX1_fullestBoard (n : OS) : Option (Int32) :=
  fX1_fullestBoard_4 n FU (0 : Int32) (0 : Int32)
def fX1_firstLifted_5 (n : OS) : Nat → Int32 → Int32 → Option (Int32)
  | 0, _, _ => none
  | k + 1, x1, x2 =>
    if (48 : Int32) ≤ x2 then
     some x1
    else
     if (fX1_isInletBusy n x2) = (0 : Int32) then
      fX1_firstLifted_5 n k x1 (x2 + (1 : Int32))
     else
      if (0 : Int32) ≤ (rget (n.2 2) 48 x2) then
       fX1_firstLifted_5 n k x1 (x2 + (1 : Int32))
      else
       if x1 < (0 : Int32) then
        fX1_firstLifted_5 n k x2 (x2 + (1 : Int32))
       else
        if (rget (n.2 0) 48 x1) ≤ (rget (n.2 0) 48 x2) then
         fX1_firstLifted_5 n k x1 (x2 + (1 : Int32))
        else
         fX1_firstLifted_5 n k x2 (x2 + (1 : Int32))
theorem fX1_firstLifted_5_z (n : OS) (x1 : Int32) (x2 : Int32) : fX1_firstLifted_5 n 0 x1 x2 = none := rfl
theorem fX1_firstLifted_5_s (n : OS) (k : Nat) (x1 : Int32) (x2 : Int32) : fX1_firstLifted_5 n (k + 1) x1 x2 = (
    if (48 : Int32) ≤ x2 then
     some x1
    else
     if (fX1_isInletBusy n x2) = (0 : Int32) then
      fX1_firstLifted_5 n k x1 (x2 + (1 : Int32))
     else
      if (0 : Int32) ≤ (rget (n.2 2) 48 x2) then
       fX1_firstLifted_5 n k x1 (x2 + (1 : Int32))
      else
       if x1 < (0 : Int32) then
        fX1_firstLifted_5 n k x2 (x2 + (1 : Int32))
       else
        if (rget (n.2 0) 48 x1) ≤ (rget (n.2 0) 48 x2) then
         fX1_firstLifted_5 n k x1 (x2 + (1 : Int32))
        else
         fX1_firstLifted_5 n k x2 (x2 + (1 : Int32))) := rfl
def fX1_firstLifted (n : OS) : Option (Int32) :=
  fX1_firstLifted_5 n FU (-6 : Int32) (0 : Int32)
def fX1_addCall (n : OS) (x1 : Int32) (x2 : Int32) : OS :=
  (setF (setR (setR (setR n 0 (rset (n.2 0) 48 x1 (n.1 6))) 1 (rset (n.2 1) 48 x1 x2)) 3 (rset (n.2 3) 48 x2 x1)) 6 ((n.1 6) + (1 : Int32)))
def fX1_liftCall (n : OS) (x1 : Int32) : OS :=
  if (rget (n.2 2) 48 x1) < (0 : Int32) then
   n
  else
   (setR (setR (setR n 4 (rset (n.2 4) 64 (fX5_link (fX1_boardOf n x1) (rget (n.2 2) 48 x1)) (-6 : Int32))) 5 (rset (n.2 5) 64 (fX5_link (fX1_boardOf (setR n 4 (rset (n.2 4) 64 (fX5_link (fX1_boardOf n x1) (rget (n.2 2) 48 x1)) (-6 : Int32))) (rget (n.2 1) 48 x1)) (rget (n.2 2) 48 x1)) (-6 : Int32))) 2 (rset (n.2 2) 48 x1 (-6 : Int32)))
def fX1_removeCall (n : OS) (x1 : Int32) : OS :=
  (setR (setR (setR (fX1_liftCall n x1) 3 (rset ((fX1_liftCall n x1).2 3) 48 (rget ((fX1_liftCall n x1).2 1) 48 x1) (-6 : Int32))) 1 (rset ((fX1_liftCall n x1).2 1) 48 x1 (-6 : Int32))) 0 (rset ((fX1_liftCall n x1).2 0) 48 x1 (-6 : Int32)))
def fX1_carryCall (n : OS) (x1 : Int32) (x2 : Int32) : OS :=
  (setR (setR (setR n 2 (rset (n.2 2) 48 x1 x2)) 4 (rset (n.2 4) 64 (fX5_link (fX1_boardOf (setR n 2 (rset (n.2 2) 48 x1 x2)) x1) x2) x1)) 5 (rset (n.2 5) 64 (fX5_link (fX1_boardOf (setR (setR n 2 (rset (n.2 2) 48 x1 x2)) 4 (rset (n.2 4) 64 (fX5_link (fX1_boardOf (setR n 2 (rset (n.2 2) 48 x1 x2)) x1) x2) x1)) (rget (n.2 1) 48 x1)) x2) x1))
def fX1_freeOnLinks4_5 (n : OS) (x2 : Int32) : Nat → Int32 → Int32 → Option (Int32)
  | 0, _, _ => none
  | k + 1, x3, x4 =>
    if (n.1 2) ≤ x4 then
     some (x3 &&& (n.1 3))
    else
     if (0 : Int32) ≤ (rget (n.2 4) 64 (fX5_link x2 x4)) then
      fX1_freeOnLinks4_5 n x2 k x3 (x4 + (1 : Int32))
     else
      fX1_freeOnLinks4_5 n x2 k (x3 ||| ((1 : Int32) <<< (x4 &&& 31))) (x4 + (1 : Int32))
theorem fX1_freeOnLinks4_5_z (n : OS) (x2 : Int32) (x3 : Int32) (x4 : Int32) : fX1_freeOnLinks4_5 n x2 0 x3 x4 = none := rfl
theorem fX1_freeOnLinks4_5_s (n : OS) (x2 : Int32) (k : Nat) (x3 : Int32) (x4 : Int32) : fX1_freeOnLinks4_5 n x2 (k + 1) x3 x4 = (
    if (n.1 2) ≤ x4 then
     some (x3 &&& (n.1 3))
    else
     if (0 : Int32) ≤ (rget (n.2 4) 64 (fX5_link x2 x4)) then
      fX1_freeOnLinks4_5 n x2 k x3 (x4 + (1 : Int32))
     else
      fX1_freeOnLinks4_5 n x2 k (x3 ||| ((1 : Int32) <<< (x4 &&& 31))) (x4 + (1 : Int32))) := rfl
def fX1_freeOnLinks4 (n : OS) (x2 : Int32) : Option (Int32) :=
  fX1_freeOnLinks4_5 n x2 FU (0 : Int32) (0 : Int32)
def fX1_freeOnLinks5_5 (n : OS) (x2 : Int32) : Nat → Int32 → Int32 → Option (Int32)
  | 0, _, _ => none
  | k + 1, x3, x4 =>
    if (n.1 2) ≤ x4 then
     some (x3 &&& (n.1 3))
    else
     if (0 : Int32) ≤ (rget (n.2 5) 64 (fX5_link x2 x4)) then
      fX1_freeOnLinks5_5 n x2 k x3 (x4 + (1 : Int32))
     else
      fX1_freeOnLinks5_5 n x2 k (x3 ||| ((1 : Int32) <<< (x4 &&& 31))) (x4 + (1 : Int32))
theorem fX1_freeOnLinks5_5_z (n : OS) (x2 : Int32) (x3 : Int32) (x4 : Int32) : fX1_freeOnLinks5_5 n x2 0 x3 x4 = none := rfl
theorem fX1_freeOnLinks5_5_s (n : OS) (x2 : Int32) (k : Nat) (x3 : Int32) (x4 : Int32) : fX1_freeOnLinks5_5 n x2 (k + 1) x3 x4 = (
    if (n.1 2) ≤ x4 then
     some (x3 &&& (n.1 3))
    else
     if (0 : Int32) ≤ (rget (n.2 5) 64 (fX5_link x2 x4)) then
      fX1_freeOnLinks5_5 n x2 k x3 (x4 + (1 : Int32))
     else
      fX1_freeOnLinks5_5 n x2 k (x3 ||| ((1 : Int32) <<< (x4 &&& 31))) (x4 + (1 : Int32))) := rfl
def fX1_freeOnLinks5 (n : OS) (x2 : Int32) : Option (Int32) :=
  fX1_freeOnLinks5_5 n x2 FU (0 : Int32) (0 : Int32)
end
section
abbrev rm_X5_link : Room := { frames := 0, cells := 0, slots := 0, locals := 0 }
set_option maxRecDepth 100000 in
set_option maxHeartbeats 4000000 in
theorem w_X5_link_0 {p : Program} {l : Launch} {e : Env} {s : State} {m : MethodId} {args : Array Value} {below : List Frame} {meth : Method} {c : Code} {Q : State → Prop} {D : va_G} {cI cN : ClassId}  (S : CallFix p m c cX5_link 2 s args wsX5_link RX5) (hK : KN D cI cN s) {x0 : Int32} {x1 : Int32} {r0 : Int32} (hret : ∀ (H : Heap) (locs : List Loc) (ls : Array Slot) (pc : Nat), decode cX5_link pc = .ok (.ireturn, 1) → narrow .int (.int r0) = .int r0 → va_S (nwA s.heap.size) s.heap H locs → W p l e (headSpec wsX5_link rm_X5_link).room s m args below meth c H locs 0 0 Q (F0 m pc ls [.int r0])) (hf : fX5_link x0 x1 = r0) (H : Heap) (locs : List Loc) (ls : Array Slot) (hP : va_P D vwCl ([] : va_W) H) (hS : va_S (nwA s.heap.size) s.heap H locs) (hl : lv_has ls 2 [(0, .int x0), (1, .int x1)]) : W p l e (headSpec wsX5_link rm_X5_link).room s m args below meth c H locs 0 0 Q (F0 m 0 ls []) := by
  obtain ⟨hx, hb, hml, hown, hts⟩ := id S
  have hA : ∀ q : Nat, s.heap.size ≤ q → nwA s.heap.size q := fun _ h => h
  unfold fX5_link at hf
  refine lv_iload_n hx hb dX5_link_0 rfl (lv_at hl 0 rfl) ?_
  refine lv_bipush (v := (8 : Int32)) hx hb dX5_link_1 kc_bipush_8 ?_
  refine lv_imul hx hb dX5_link_3 ?_
  refine lv_iload_n hx hb dX5_link_4 rfl (lv_at hl 1 rfl) ?_
  refine lv_iadd hx hb dX5_link_5 ?_
  subst hf
  exact hret H locs ls _ dX5_link_6 rfl hS
set_option maxRecDepth 100000 in
theorem c_X5_link (l : Launch) (D : va_G) (cI cN : ClassId)  (sz : Nat) (x0 : Int32) (x1 : Int32) (r0 : Int32) (hf : fX5_link x0 x1 = r0) : CtP l D cI cN yX5_link wsX5_link rm_X5_link [.int x0, .int x1] ([] : va_W) sz r0 := by
  refine mP (cc := cX5_link) (maxL := 2) (ty := .int) (by decide) rfl rfl (Nat.le_of_ble_eq_true rfl) ?_
  intro p e s m args below meth c Q S hK hP hS hret ls hl
  exact w_X5_link_0 S hK hret hf _ _ _ hP hS (lv_sub (show lv_has ls 2 [(0, .int x0), (1, .int x1)] from hl) [0, 1] rfl)
abbrev rm_X5_hasBit : Room := { frames := 0, cells := 0, slots := 0, locals := 0 }
set_option maxRecDepth 100000 in
set_option maxHeartbeats 4000000 in
theorem w_X5_hasBit_0 {p : Program} {l : Launch} {e : Env} {s : State} {m : MethodId} {args : Array Value} {below : List Frame} {meth : Method} {c : Code} {Q : State → Prop} {D : va_G} {cI cN : ClassId}  (S : CallFix p m c cX5_hasBit 2 s args wsX5_hasBit RX5) (hK : KN D cI cN s) {x0 : Int32} {x1 : Int32} {r0 : Int32} (hret : ∀ (H : Heap) (locs : List Loc) (ls : Array Slot) (pc : Nat), decode cX5_hasBit pc = .ok (.ireturn, 1) → narrow .boolean (.int r0) = .int r0 → va_S (nwA s.heap.size) s.heap H locs → W p l e (headSpec wsX5_hasBit rm_X5_hasBit).room s m args below meth c H locs 0 0 Q (F0 m pc ls [.int r0])) (hf : fX5_hasBit x0 x1 = r0) (H : Heap) (locs : List Loc) (ls : Array Slot) (hP : va_P D vwCl ([] : va_W) H) (hS : va_S (nwA s.heap.size) s.heap H locs) (hl : lv_has ls 2 [(0, .int x0), (1, .int x1)]) : W p l e (headSpec wsX5_hasBit rm_X5_hasBit).room s m args below meth c H locs 0 0 Q (F0 m 0 ls []) := by
  obtain ⟨hx, hb, hml, hown, hts⟩ := id S
  have hA : ∀ q : Nat, s.heap.size ≤ q → nwA s.heap.size q := fun _ h => h
  unfold fX5_hasBit at hf
  refine lv_iload_n hx hb dX5_hasBit_0 rfl (lv_at hl 0 rfl) ?_
  refine lv_iconst (v := (1 : Int32)) hx hb dX5_hasBit_1 kc_iconst_1 ?_
  refine lv_iload_n hx hb dX5_hasBit_2 rfl (lv_at hl 1 rfl) ?_
  refine lv_ishl hx hb dX5_hasBit_3 ?_
  refine lv_iand hx hb dX5_hasBit_4 ?_
  refine lv_if_eq (tgt := 12) hx hb dX5_hasBit_5 (by decide) (fun c1 => ?_) (fun c1 => ?_)
  · have hf := it_t hf c1
    refine lv_iconst (v := (0 : Int32)) hx hb dX5_hasBit_12 kc_iconst_0 ?_
    subst hf
    exact hret H locs ls _ dX5_hasBit_13 (by first | rfl | exact bo_in | (exact bo_isHere (by assumption))) hS
  · have hf := it_f hf c1
    refine lv_iconst (v := (1 : Int32)) hx hb dX5_hasBit_8 kc_iconst_1 ?_
    refine lv_goto (tgt := 13) hx hb dX5_hasBit_9 (by decide) ?_
    subst hf
    exact hret H locs ls _ dX5_hasBit_13 (by first | rfl | exact bo_in | (exact bo_isHere (by assumption))) hS
set_option maxRecDepth 100000 in
theorem c_X5_hasBit (l : Launch) (D : va_G) (cI cN : ClassId)  (sz : Nat) (x0 : Int32) (x1 : Int32) (r0 : Int32) (hf : fX5_hasBit x0 x1 = r0) : CtP l D cI cN yX5_hasBit wsX5_hasBit rm_X5_hasBit [.int x0, .int x1] ([] : va_W) sz r0 := by
  refine mP (cc := cX5_hasBit) (maxL := 2) (ty := .boolean) (by decide) rfl rfl (Nat.le_of_ble_eq_true rfl) ?_
  intro p e s m args below meth c Q S hK hP hS hret ls hl
  exact w_X5_hasBit_0 S hK hret hf _ _ _ hP hS (lv_sub (show lv_has ls 2 [(0, .int x0), (1, .int x1)] from hl) [0, 1] rfl)
abbrev rm_X5_within : Room := { frames := 0, cells := 0, slots := 0, locals := 0 }
set_option maxRecDepth 100000 in
set_option maxHeartbeats 4000000 in
theorem w_X5_within_0 {p : Program} {l : Launch} {e : Env} {s : State} {m : MethodId} {args : Array Value} {below : List Frame} {meth : Method} {c : Code} {Q : State → Prop} {D : va_G} {cI cN : ClassId}  (S : CallFix p m c cX5_within 3 s args wsX5_within RX5) (hK : KN D cI cN s) {x0 : Int32} {x1 : Int32} {x2 : Int32} {r0 : Int32} (hret : ∀ (H : Heap) (locs : List Loc) (ls : Array Slot) (pc : Nat), decode cX5_within pc = .ok (.ireturn, 1) → narrow .boolean (.int r0) = .int r0 → va_S (nwA s.heap.size) s.heap H locs → W p l e (headSpec wsX5_within rm_X5_within).room s m args below meth c H locs 0 0 Q (F0 m pc ls [.int r0])) (hf : fX5_within x0 x1 x2 = r0) (H : Heap) (locs : List Loc) (ls : Array Slot) (hP : va_P D vwCl ([] : va_W) H) (hS : va_S (nwA s.heap.size) s.heap H locs) (hl : lv_has ls 3 [(0, .int x0), (1, .int x1), (2, .int x2)]) : W p l e (headSpec wsX5_within rm_X5_within).room s m args below meth c H locs 0 0 Q (F0 m 0 ls []) := by
  obtain ⟨hx, hb, hml, hown, hts⟩ := id S
  have hA : ∀ q : Nat, s.heap.size ≤ q → nwA s.heap.size q := fun _ h => h
  unfold fX5_within at hf
  refine lv_iload_n hx hb dX5_within_0 rfl (lv_at hl 0 rfl) ?_
  refine lv_iload_n hx hb dX5_within_1 rfl (lv_at hl 1 rfl) ?_
  refine lv_icmp_lt (tgt := 14) hx hb dX5_within_2 (by decide) (fun c1 => ?_) (fun c1 => ?_)
  · have hf := it_t hf c1
    refine lv_iconst (v := (0 : Int32)) hx hb dX5_within_14 kc_iconst_0 ?_
    subst hf
    exact hret H locs ls _ dX5_within_15 (by first | rfl | exact bo_in | (exact bo_isHere (by assumption))) hS
  · have hf := it_f hf c1
    refine lv_iload_n hx hb dX5_within_5 rfl (lv_at hl 0 rfl) ?_
    refine lv_iload_n hx hb dX5_within_6 rfl (lv_at hl 2 rfl) ?_
    refine lv_icmp_gt (tgt := 14) hx hb dX5_within_7 (by decide) (fun c2 => ?_) (fun c2 => ?_)
    · have hf := it_t hf c2
      refine lv_iconst (v := (0 : Int32)) hx hb dX5_within_14 kc_iconst_0 ?_
      subst hf
      exact hret H locs ls _ dX5_within_15 (by first | rfl | exact bo_in | (exact bo_isHere (by assumption))) hS
    · have hf := it_f hf c2
      refine lv_iconst (v := (1 : Int32)) hx hb dX5_within_10 kc_iconst_1 ?_
      refine lv_goto (tgt := 15) hx hb dX5_within_11 (by decide) ?_
      subst hf
      exact hret H locs ls _ dX5_within_15 (by first | rfl | exact bo_in | (exact bo_isHere (by assumption))) hS
set_option maxRecDepth 100000 in
theorem c_X5_within (l : Launch) (D : va_G) (cI cN : ClassId)  (sz : Nat) (x0 : Int32) (x1 : Int32) (x2 : Int32) (r0 : Int32) (hf : fX5_within x0 x1 x2 = r0) : CtP l D cI cN yX5_within wsX5_within rm_X5_within [.int x0, .int x1, .int x2] ([] : va_W) sz r0 := by
  refine mP (cc := cX5_within) (maxL := 3) (ty := .boolean) (by decide) rfl rfl (Nat.le_of_ble_eq_true rfl) ?_
  intro p e s m args below meth c Q S hK hP hS hret ls hl
  exact w_X5_within_0 S hK hret hf _ _ _ hP hS (lv_sub (show lv_has ls 3 [(0, .int x0), (1, .int x1), (2, .int x2)] from hl) [0, 1, 2] rfl)
abbrev rm_X1_isLine : Room := { frames := 0, cells := 0, slots := 0, locals := 0 }
theorem in_X1_isLine_X1 : ∀ w ∈ u_ws RX1 TX1 16, w ∈ wsX1_isLine := fun w h => List.mem_cons_of_mem _ (List.mem_append_right _ h)
set_option maxRecDepth 100000 in
set_option maxHeartbeats 4000000 in
theorem w_X1_isLine_0 {p : Program} {l : Launch} {e : Env} {s : State} {m : MethodId} {args : Array Value} {below : List Frame} {meth : Method} {c : Code} {Q : State → Prop} {D : va_G} {cI cN : ClassId} {q : Nat → Nat} (S : CallFix p m c cX1_isLine 2 s args wsX1_isLine RX1) (hK : KN D cI cN s) {n : OS} {x1 : Int32} {r0 : Int32} (hret : ∀ (H : Heap) (locs : List Loc) (ls : Array Slot) (pc : Nat), decode cX1_isLine pc = .ok (.ireturn, 1) → narrow .boolean (.int r0) = .int r0 → va_S (nwA s.heap.size) s.heap H locs → W p l e (headSpec wsX1_isLine rm_X1_isLine).room s m args below meth c H locs 0 0 Q (F0 m pc ls [.int r0])) (hf : fX1_isLine n x1 = r0) (H : Heap) (locs : List Loc) (ls : Array Slot) (hP : va_P D vwCl (nwW cI q n) H) (hS : va_S (nwA s.heap.size) s.heap H locs) (hl : lv_has ls 2 [(0, .ref (q 0)), (1, .int x1)]) : W p l e (headSpec wsX1_isLine rm_X1_isLine).room s m args below meth c H locs 0 0 Q (F0 m 0 ls []) := by
  obtain ⟨hx, hb, hml, hown, hts⟩ := id S
  have inX1 := in_X1_isLine_X1
  have hA : ∀ q : Nat, s.heap.size ≤ q → nwA s.heap.size q := fun _ h => h
  unfold fX1_isLine at hf
  refine lv_iload_n hx hb dX1_isLine_0 rfl (lv_at hl 1 rfl) ?_
  refine lv_if_lt (tgt := 21) hx hb dX1_isLine_1 (by decide) (fun c1 => ?_) (fun c1 => ?_)
  · have hf := it_t hf c1
    refine lv_iconst (v := (0 : Int32)) hx hb dX1_isLine_21 kc_iconst_0 ?_
    subst hf
    exact hret H locs ls _ dX1_isLine_22 (by first | rfl | exact bo_in | (exact bo_isHere (by assumption))) hS
  · have hf := it_f hf c1
    refine lv_iload_n hx hb dX1_isLine_4 rfl (lv_at hl 1 rfl) ?_
    refine lv_aload_n hx hb dX1_isLine_5 rfl (lv_at hl 0 rfl) ?_
    refine va_get (D := D) (ci := 1) (v := .int (n.1 0)) (C := RX1) (T := TX1) (N := 16) hx hb hts inX1 hown hK.1 hP 0 rfl rfl 0 (by decide) (hts (.fieldLink RX1 9 "ClosExchange$Network" "boards" "I") (List.mem_of_getElem? (i := 1) rfl)) (fun _ h9 => h9) rfl dX1_isLine_6 ?_
    refine lv_aload_n hx hb dX1_isLine_9 rfl (lv_at hl 0 rfl) ?_
    refine va_get (D := D) (ci := 1) (v := .int (n.1 1)) (C := RX1) (T := TX1) (N := 16) hx hb hts inX1 hown hK.1 hP 0 rfl rfl 1 (by decide) (hts (.fieldLink RX1 15 "ClosExchange$Network" "lines" "I") (List.mem_of_getElem? (i := 2) rfl)) (fun _ h9 => h9) rfl dX1_isLine_10 ?_
    refine lv_imul hx hb dX1_isLine_13 ?_
    refine lv_icmp_ge (tgt := 21) hx hb dX1_isLine_14 (by decide) (fun c2 => ?_) (fun c2 => ?_)
    · have hf := it_t hf c2
      refine lv_iconst (v := (0 : Int32)) hx hb dX1_isLine_21 kc_iconst_0 ?_
      subst hf
      exact hret H locs ls _ dX1_isLine_22 (by first | rfl | exact bo_in | (exact bo_isHere (by assumption))) hS
    · have hf := it_f hf c2
      refine lv_iconst (v := (1 : Int32)) hx hb dX1_isLine_17 kc_iconst_1 ?_
      refine lv_goto (tgt := 22) hx hb dX1_isLine_18 (by decide) ?_
      subst hf
      exact hret H locs ls _ dX1_isLine_22 (by first | rfl | exact bo_in | (exact bo_isHere (by assumption))) hS
set_option maxRecDepth 100000 in
theorem c_X1_isLine (l : Launch) (D : va_G) (cI cN : ClassId) (q : Nat → Nat) (sz : Nat) (n : OS) (x1 : Int32) (r0 : Int32) (hf : fX1_isLine n x1 = r0) : CtP l D cI cN yX1_isLine wsX1_isLine rm_X1_isLine [.ref (q 0), .int x1] (nwW cI q n) sz r0 := by
  refine mP (cc := cX1_isLine) (maxL := 2) (ty := .boolean) (by decide) rfl rfl (Nat.le_of_ble_eq_true rfl) ?_
  intro p e s m args below meth c Q S hK hP hS hret ls hl
  exact w_X1_isLine_0 S hK hret hf _ _ _ hP hS (lv_sub (show lv_has ls 2 [(0, .ref (q 0)), (1, .int x1)] from hl) [0, 1] rfl)
abbrev rm_X1_isBoard : Room := { frames := 0, cells := 0, slots := 0, locals := 0 }
theorem in_X1_isBoard_X1 : ∀ w ∈ u_ws RX1 TX1 16, w ∈ wsX1_isBoard := fun w h => List.mem_cons_of_mem _ (List.mem_append_right _ h)
set_option maxRecDepth 100000 in
set_option maxHeartbeats 4000000 in
theorem w_X1_isBoard_0 {p : Program} {l : Launch} {e : Env} {s : State} {m : MethodId} {args : Array Value} {below : List Frame} {meth : Method} {c : Code} {Q : State → Prop} {D : va_G} {cI cN : ClassId} {q : Nat → Nat} (S : CallFix p m c cX1_isBoard 2 s args wsX1_isBoard RX1) (hK : KN D cI cN s) {n : OS} {x1 : Int32} {r0 : Int32} (hret : ∀ (H : Heap) (locs : List Loc) (ls : Array Slot) (pc : Nat), decode cX1_isBoard pc = .ok (.ireturn, 1) → narrow .boolean (.int r0) = .int r0 → va_S (nwA s.heap.size) s.heap H locs → W p l e (headSpec wsX1_isBoard rm_X1_isBoard).room s m args below meth c H locs 0 0 Q (F0 m pc ls [.int r0])) (hf : fX1_isBoard n x1 = r0) (H : Heap) (locs : List Loc) (ls : Array Slot) (hP : va_P D vwCl (nwW cI q n) H) (hS : va_S (nwA s.heap.size) s.heap H locs) (hl : lv_has ls 2 [(0, .ref (q 0)), (1, .int x1)]) : W p l e (headSpec wsX1_isBoard rm_X1_isBoard).room s m args below meth c H locs 0 0 Q (F0 m 0 ls []) := by
  obtain ⟨hx, hb, hml, hown, hts⟩ := id S
  have inX1 := in_X1_isBoard_X1
  have hA : ∀ q : Nat, s.heap.size ≤ q → nwA s.heap.size q := fun _ h => h
  unfold fX1_isBoard at hf
  refine lv_iload_n hx hb dX1_isBoard_0 rfl (lv_at hl 1 rfl) ?_
  refine lv_if_lt (tgt := 16) hx hb dX1_isBoard_1 (by decide) (fun c1 => ?_) (fun c1 => ?_)
  · have hf := it_t hf c1
    refine lv_iconst (v := (0 : Int32)) hx hb dX1_isBoard_16 kc_iconst_0 ?_
    subst hf
    exact hret H locs ls _ dX1_isBoard_17 (by first | rfl | exact bo_in | (exact bo_isHere (by assumption))) hS
  · have hf := it_f hf c1
    refine lv_iload_n hx hb dX1_isBoard_4 rfl (lv_at hl 1 rfl) ?_
    refine lv_aload_n hx hb dX1_isBoard_5 rfl (lv_at hl 0 rfl) ?_
    refine va_get (D := D) (ci := 1) (v := .int (n.1 0)) (C := RX1) (T := TX1) (N := 16) hx hb hts inX1 hown hK.1 hP 0 rfl rfl 0 (by decide) (hts (.fieldLink RX1 9 "ClosExchange$Network" "boards" "I") (List.mem_of_getElem? (i := 1) rfl)) (fun _ h9 => h9) rfl dX1_isBoard_6 ?_
    refine lv_icmp_ge (tgt := 16) hx hb dX1_isBoard_9 (by decide) (fun c2 => ?_) (fun c2 => ?_)
    · have hf := it_t hf c2
      refine lv_iconst (v := (0 : Int32)) hx hb dX1_isBoard_16 kc_iconst_0 ?_
      subst hf
      exact hret H locs ls _ dX1_isBoard_17 (by first | rfl | exact bo_in | (exact bo_isHere (by assumption))) hS
    · have hf := it_f hf c2
      refine lv_iconst (v := (1 : Int32)) hx hb dX1_isBoard_12 kc_iconst_1 ?_
      refine lv_goto (tgt := 17) hx hb dX1_isBoard_13 (by decide) ?_
      subst hf
      exact hret H locs ls _ dX1_isBoard_17 (by first | rfl | exact bo_in | (exact bo_isHere (by assumption))) hS
set_option maxRecDepth 100000 in
theorem c_X1_isBoard (l : Launch) (D : va_G) (cI cN : ClassId) (q : Nat → Nat) (sz : Nat) (n : OS) (x1 : Int32) (r0 : Int32) (hf : fX1_isBoard n x1 = r0) : CtP l D cI cN yX1_isBoard wsX1_isBoard rm_X1_isBoard [.ref (q 0), .int x1] (nwW cI q n) sz r0 := by
  refine mP (cc := cX1_isBoard) (maxL := 2) (ty := .boolean) (by decide) rfl rfl (Nat.le_of_ble_eq_true rfl) ?_
  intro p e s m args below meth c Q S hK hP hS hret ls hl
  exact w_X1_isBoard_0 S hK hret hf _ _ _ hP hS (lv_sub (show lv_has ls 2 [(0, .ref (q 0)), (1, .int x1)] from hl) [0, 1] rfl)
abbrev rm_X1_isMiddle : Room := { frames := 0, cells := 0, slots := 0, locals := 0 }
theorem in_X1_isMiddle_X1 : ∀ w ∈ u_ws RX1 TX1 16, w ∈ wsX1_isMiddle := fun w h => List.mem_cons_of_mem _ (List.mem_append_right _ h)
set_option maxRecDepth 100000 in
set_option maxHeartbeats 4000000 in
theorem w_X1_isMiddle_0 {p : Program} {l : Launch} {e : Env} {s : State} {m : MethodId} {args : Array Value} {below : List Frame} {meth : Method} {c : Code} {Q : State → Prop} {D : va_G} {cI cN : ClassId} {q : Nat → Nat} (S : CallFix p m c cX1_isMiddle 2 s args wsX1_isMiddle RX1) (hK : KN D cI cN s) {n : OS} {x1 : Int32} {r0 : Int32} (hret : ∀ (H : Heap) (locs : List Loc) (ls : Array Slot) (pc : Nat), decode cX1_isMiddle pc = .ok (.ireturn, 1) → narrow .boolean (.int r0) = .int r0 → va_S (nwA s.heap.size) s.heap H locs → W p l e (headSpec wsX1_isMiddle rm_X1_isMiddle).room s m args below meth c H locs 0 0 Q (F0 m pc ls [.int r0])) (hf : fX1_isMiddle n x1 = r0) (H : Heap) (locs : List Loc) (ls : Array Slot) (hP : va_P D vwCl (nwW cI q n) H) (hS : va_S (nwA s.heap.size) s.heap H locs) (hl : lv_has ls 2 [(0, .ref (q 0)), (1, .int x1)]) : W p l e (headSpec wsX1_isMiddle rm_X1_isMiddle).room s m args below meth c H locs 0 0 Q (F0 m 0 ls []) := by
  obtain ⟨hx, hb, hml, hown, hts⟩ := id S
  have inX1 := in_X1_isMiddle_X1
  have hA : ∀ q : Nat, s.heap.size ≤ q → nwA s.heap.size q := fun _ h => h
  unfold fX1_isMiddle at hf
  refine lv_iload_n hx hb dX1_isMiddle_0 rfl (lv_at hl 1 rfl) ?_
  refine lv_if_lt (tgt := 16) hx hb dX1_isMiddle_1 (by decide) (fun c1 => ?_) (fun c1 => ?_)
  · have hf := it_t hf c1
    refine lv_iconst (v := (0 : Int32)) hx hb dX1_isMiddle_16 kc_iconst_0 ?_
    subst hf
    exact hret H locs ls _ dX1_isMiddle_17 (by first | rfl | exact bo_in | (exact bo_isHere (by assumption))) hS
  · have hf := it_f hf c1
    refine lv_iload_n hx hb dX1_isMiddle_4 rfl (lv_at hl 1 rfl) ?_
    refine lv_aload_n hx hb dX1_isMiddle_5 rfl (lv_at hl 0 rfl) ?_
    refine va_get (D := D) (ci := 1) (v := .int (n.1 2)) (C := RX1) (T := TX1) (N := 16) hx hb hts inX1 hown hK.1 hP 0 rfl rfl 2 (by decide) (hts (.fieldLink RX1 18 "ClosExchange$Network" "middles" "I") (List.mem_of_getElem? (i := 1) rfl)) (fun _ h9 => h9) rfl dX1_isMiddle_6 ?_
    refine lv_icmp_ge (tgt := 16) hx hb dX1_isMiddle_9 (by decide) (fun c2 => ?_) (fun c2 => ?_)
    · have hf := it_t hf c2
      refine lv_iconst (v := (0 : Int32)) hx hb dX1_isMiddle_16 kc_iconst_0 ?_
      subst hf
      exact hret H locs ls _ dX1_isMiddle_17 (by first | rfl | exact bo_in | (exact bo_isHere (by assumption))) hS
    · have hf := it_f hf c2
      refine lv_iconst (v := (1 : Int32)) hx hb dX1_isMiddle_12 kc_iconst_1 ?_
      refine lv_goto (tgt := 17) hx hb dX1_isMiddle_13 (by decide) ?_
      subst hf
      exact hret H locs ls _ dX1_isMiddle_17 (by first | rfl | exact bo_in | (exact bo_isHere (by assumption))) hS
set_option maxRecDepth 100000 in
theorem c_X1_isMiddle (l : Launch) (D : va_G) (cI cN : ClassId) (q : Nat → Nat) (sz : Nat) (n : OS) (x1 : Int32) (r0 : Int32) (hf : fX1_isMiddle n x1 = r0) : CtP l D cI cN yX1_isMiddle wsX1_isMiddle rm_X1_isMiddle [.ref (q 0), .int x1] (nwW cI q n) sz r0 := by
  refine mP (cc := cX1_isMiddle) (maxL := 2) (ty := .boolean) (by decide) rfl rfl (Nat.le_of_ble_eq_true rfl) ?_
  intro p e s m args below meth c Q S hK hP hS hret ls hl
  exact w_X1_isMiddle_0 S hK hret hf _ _ _ hP hS (lv_sub (show lv_has ls 2 [(0, .ref (q 0)), (1, .int x1)] from hl) [0, 1] rfl)
abbrev rm_X1_isInletBusy : Room := { frames := 1, cells := 0, slots := 0, locals := 21 }
theorem in_X1_isInletBusy_X1 : ∀ w ∈ u_ws RX1 TX1 16, w ∈ wsX1_isInletBusy := fun w h => List.mem_cons_of_mem _ (List.mem_append_left _ (List.mem_append_right _ h))
set_option maxRecDepth 100000 in
set_option maxHeartbeats 4000000 in
theorem w_X1_isInletBusy_0 {p : Program} {l : Launch} {e : Env} {s : State} {m : MethodId} {args : Array Value} {below : List Frame} {meth : Method} {c : Code} {Q : State → Prop} {D : va_G} {cI cN : ClassId} {q : Nat → Nat} (S : CallFix p m c cX1_isInletBusy 2 s args wsX1_isInletBusy RX1) (hK : KN D cI cN s) {n : OS} {x1 : Int32} {r0 : Int32} (hret : ∀ (H : Heap) (locs : List Loc) (ls : Array Slot) (pc : Nat), decode cX1_isInletBusy pc = .ok (.ireturn, 1) → narrow .boolean (.int r0) = .int r0 → va_S (nwA s.heap.size) s.heap H locs → W p l e (headSpec wsX1_isInletBusy rm_X1_isInletBusy).room s m args below meth c H locs 0 0 Q (F0 m pc ls [.int r0])) (hf : fX1_isInletBusy n x1 = r0) (H : Heap) (locs : List Loc) (ls : Array Slot) (hP : va_P D vwCl (nwW cI q n) H) (hS : va_S (nwA s.heap.size) s.heap H locs) (hl : lv_has ls 2 [(0, .ref (q 0)), (1, .int x1)]) : W p l e (headSpec wsX1_isInletBusy rm_X1_isInletBusy).room s m args below meth c H locs 0 0 Q (F0 m 0 ls []) := by
  obtain ⟨hx, hb, hml, hown, hts⟩ := id S
  have inX1 := in_X1_isInletBusy_X1
  have hA : ∀ q : Nat, s.heap.size ≤ q → nwA s.heap.size q := fun _ h => h
  unfold fX1_isInletBusy at hf
  refine lv_aload_n hx hb dX1_isInletBusy_0 rfl (lv_at hl 0 rfl) ?_
  refine va_get (D := D) (ci := 1) (v := .ref (q 1)) (C := RX1) (T := TX1) (N := 16) hx hb hts inX1 hown hK.1 hP 0 rfl rfl 10 (by decide) (hts (.fieldLink RX1 29 "ClosExchange$Network" "numbers" "LClosExchange$Row;") (List.mem_of_getElem? (i := 1) rfl)) (fun _ h9 => h9) rfl dX1_isInletBusy_1 ?_
  refine lv_iload_n hx hb dX1_isInletBusy_4 rfl (lv_at hl 1 rfl) ?_
  refine cPi (As := [.int x1]) (rest := []) (q0 := 1) (ci := 4) S (c_X4_get l D cI cN (q 1) (q 7) 48 (Nat.le_of_ble_eq_true rfl) _ (n.2 0) x1) (cwV 1 hts gX1_isInletBusy_X4_get rfl rfl rfl (by decide +kernel) ⟨Nat.le_of_ble_eq_true rfl, Nat.le_of_ble_eq_true rfl⟩) hK hP hS hA [1, 7] rfl rfl rfl rfl hl.1 rfl (Nat.le_of_ble_eq_true rfl) dX1_isInletBusy_5 ⟨Nat.zero_le _, Nat.zero_le _⟩ (fun H locs hP hS => ?_)
  refine lv_if_lt (tgt := 15) hx hb dX1_isInletBusy_8 (by decide) (fun c1 => ?_) (fun c1 => ?_)
  · have hf := it_t hf c1
    refine lv_iconst (v := (0 : Int32)) hx hb dX1_isInletBusy_15 kc_iconst_0 ?_
    subst hf
    exact hret H locs ls _ dX1_isInletBusy_16 (by first | rfl | exact bo_in | (exact bo_isHere (by assumption))) hS
  · have hf := it_f hf c1
    refine lv_iconst (v := (1 : Int32)) hx hb dX1_isInletBusy_11 kc_iconst_1 ?_
    refine lv_goto (tgt := 16) hx hb dX1_isInletBusy_12 (by decide) ?_
    subst hf
    exact hret H locs ls _ dX1_isInletBusy_16 (by first | rfl | exact bo_in | (exact bo_isHere (by assumption))) hS
set_option maxRecDepth 100000 in
theorem c_X1_isInletBusy (l : Launch) (D : va_G) (cI cN : ClassId) (q : Nat → Nat) (sz : Nat) (n : OS) (x1 : Int32) (r0 : Int32) (hf : fX1_isInletBusy n x1 = r0) : CtP l D cI cN yX1_isInletBusy wsX1_isInletBusy rm_X1_isInletBusy [.ref (q 0), .int x1] (nwW cI q n) sz r0 := by
  refine mP (cc := cX1_isInletBusy) (maxL := 2) (ty := .boolean) (by decide) rfl rfl (Nat.le_of_ble_eq_true rfl) ?_
  intro p e s m args below meth c Q S hK hP hS hret ls hl
  exact w_X1_isInletBusy_0 S hK hret hf _ _ _ hP hS (lv_sub (show lv_has ls 2 [(0, .ref (q 0)), (1, .int x1)] from hl) [0, 1] rfl)
abbrev rm_X1_isOutletBusy : Room := { frames := 1, cells := 0, slots := 0, locals := 21 }
theorem in_X1_isOutletBusy_X1 : ∀ w ∈ u_ws RX1 TX1 16, w ∈ wsX1_isOutletBusy := fun w h => List.mem_cons_of_mem _ (List.mem_append_left _ (List.mem_append_right _ h))
set_option maxRecDepth 100000 in
set_option maxHeartbeats 4000000 in
theorem w_X1_isOutletBusy_0 {p : Program} {l : Launch} {e : Env} {s : State} {m : MethodId} {args : Array Value} {below : List Frame} {meth : Method} {c : Code} {Q : State → Prop} {D : va_G} {cI cN : ClassId} {q : Nat → Nat} (S : CallFix p m c cX1_isOutletBusy 2 s args wsX1_isOutletBusy RX1) (hK : KN D cI cN s) {n : OS} {x1 : Int32} {r0 : Int32} (hret : ∀ (H : Heap) (locs : List Loc) (ls : Array Slot) (pc : Nat), decode cX1_isOutletBusy pc = .ok (.ireturn, 1) → narrow .boolean (.int r0) = .int r0 → va_S (nwA s.heap.size) s.heap H locs → W p l e (headSpec wsX1_isOutletBusy rm_X1_isOutletBusy).room s m args below meth c H locs 0 0 Q (F0 m pc ls [.int r0])) (hf : fX1_isOutletBusy n x1 = r0) (H : Heap) (locs : List Loc) (ls : Array Slot) (hP : va_P D vwCl (nwW cI q n) H) (hS : va_S (nwA s.heap.size) s.heap H locs) (hl : lv_has ls 2 [(0, .ref (q 0)), (1, .int x1)]) : W p l e (headSpec wsX1_isOutletBusy rm_X1_isOutletBusy).room s m args below meth c H locs 0 0 Q (F0 m 0 ls []) := by
  obtain ⟨hx, hb, hml, hown, hts⟩ := id S
  have inX1 := in_X1_isOutletBusy_X1
  have hA : ∀ q : Nat, s.heap.size ≤ q → nwA s.heap.size q := fun _ h => h
  unfold fX1_isOutletBusy at hf
  refine lv_aload_n hx hb dX1_isOutletBusy_0 rfl (lv_at hl 0 rfl) ?_
  refine va_get (D := D) (ci := 1) (v := .ref (q 4)) (C := RX1) (T := TX1) (N := 16) hx hb hts inX1 hown hK.1 hP 0 rfl rfl 13 (by decide) (hts (.fieldLink RX1 39 "ClosExchange$Network" "inlets" "LClosExchange$Row;") (List.mem_of_getElem? (i := 1) rfl)) (fun _ h9 => h9) rfl dX1_isOutletBusy_1 ?_
  refine lv_iload_n hx hb dX1_isOutletBusy_4 rfl (lv_at hl 1 rfl) ?_
  refine cPi (As := [.int x1]) (rest := []) (q0 := 4) (ci := 4) S (c_X4_get l D cI cN (q 4) (q 10) 48 (Nat.le_of_ble_eq_true rfl) _ (n.2 3) x1) (cwV 1 hts gX1_isOutletBusy_X4_get rfl rfl rfl (by decide +kernel) ⟨Nat.le_of_ble_eq_true rfl, Nat.le_of_ble_eq_true rfl⟩) hK hP hS hA [4, 10] rfl rfl rfl rfl hl.1 rfl (Nat.le_of_ble_eq_true rfl) dX1_isOutletBusy_5 ⟨Nat.zero_le _, Nat.zero_le _⟩ (fun H locs hP hS => ?_)
  refine lv_if_lt (tgt := 15) hx hb dX1_isOutletBusy_8 (by decide) (fun c1 => ?_) (fun c1 => ?_)
  · have hf := it_t hf c1
    refine lv_iconst (v := (0 : Int32)) hx hb dX1_isOutletBusy_15 kc_iconst_0 ?_
    subst hf
    exact hret H locs ls _ dX1_isOutletBusy_16 (by first | rfl | exact bo_in | (exact bo_isHere (by assumption))) hS
  · have hf := it_f hf c1
    refine lv_iconst (v := (1 : Int32)) hx hb dX1_isOutletBusy_11 kc_iconst_1 ?_
    refine lv_goto (tgt := 16) hx hb dX1_isOutletBusy_12 (by decide) ?_
    subst hf
    exact hret H locs ls _ dX1_isOutletBusy_16 (by first | rfl | exact bo_in | (exact bo_isHere (by assumption))) hS
set_option maxRecDepth 100000 in
theorem c_X1_isOutletBusy (l : Launch) (D : va_G) (cI cN : ClassId) (q : Nat → Nat) (sz : Nat) (n : OS) (x1 : Int32) (r0 : Int32) (hf : fX1_isOutletBusy n x1 = r0) : CtP l D cI cN yX1_isOutletBusy wsX1_isOutletBusy rm_X1_isOutletBusy [.ref (q 0), .int x1] (nwW cI q n) sz r0 := by
  refine mP (cc := cX1_isOutletBusy) (maxL := 2) (ty := .boolean) (by decide) rfl rfl (Nat.le_of_ble_eq_true rfl) ?_
  intro p e s m args below meth c Q S hK hP hS hret ls hl
  exact w_X1_isOutletBusy_0 S hK hret hf _ _ _ hP hS (lv_sub (show lv_has ls 2 [(0, .ref (q 0)), (1, .int x1)] from hl) [0, 1] rfl)
abbrev rm_X1_boardOf : Room := { frames := 0, cells := 0, slots := 0, locals := 0 }
theorem in_X1_boardOf_X1 : ∀ w ∈ u_ws RX1 TX1 16, w ∈ wsX1_boardOf := fun w h => List.mem_cons_of_mem _ (List.mem_append_right _ h)
set_option maxRecDepth 100000 in
set_option maxHeartbeats 4000000 in
theorem w_X1_boardOf_0 {p : Program} {l : Launch} {e : Env} {s : State} {m : MethodId} {args : Array Value} {below : List Frame} {meth : Method} {c : Code} {Q : State → Prop} {D : va_G} {cI cN : ClassId} {q : Nat → Nat} (S : CallFix p m c cX1_boardOf 2 s args wsX1_boardOf RX1) (hK : KN D cI cN s) {n : OS} {x1 : Int32} {r0 : Int32} (hret : ∀ (H : Heap) (locs : List Loc) (ls : Array Slot) (pc : Nat), decode cX1_boardOf pc = .ok (.ireturn, 1) → narrow .int (.int r0) = .int r0 → va_S (nwA s.heap.size) s.heap H locs → W p l e (headSpec wsX1_boardOf rm_X1_boardOf).room s m args below meth c H locs 0 0 Q (F0 m pc ls [.int r0])) (hf : fX1_boardOf n x1 = r0) (H : Heap) (locs : List Loc) (ls : Array Slot) (hP : va_P D vwCl (nwW cI q n) H) (hS : va_S (nwA s.heap.size) s.heap H locs) (hl : lv_has ls 2 [(0, .ref (q 0)), (1, .int x1)]) : W p l e (headSpec wsX1_boardOf rm_X1_boardOf).room s m args below meth c H locs 0 0 Q (F0 m 0 ls []) := by
  obtain ⟨hx, hb, hml, hown, hts⟩ := id S
  have inX1 := in_X1_boardOf_X1
  have hA : ∀ q : Nat, s.heap.size ≤ q → nwA s.heap.size q := fun _ h => h
  unfold fX1_boardOf at hf
  refine lv_aload_n hx hb dX1_boardOf_0 rfl (lv_at hl 0 rfl) ?_
  refine va_get (D := D) (ci := 1) (v := .int (n.1 1)) (C := RX1) (T := TX1) (N := 16) hx hb hts inX1 hown hK.1 hP 0 rfl rfl 1 (by decide) (hts (.fieldLink RX1 15 "ClosExchange$Network" "lines" "I") (List.mem_of_getElem? (i := 1) rfl)) (fun _ h9 => h9) rfl dX1_boardOf_1 ?_
  refine lv_if_le (tgt := 16) hx hb dX1_boardOf_4 (by decide) (fun c1 => ?_) (fun c1 => ?_)
  · have hf := it_t hf c1
    refine lv_iconst (v := (0 : Int32)) hx hb dX1_boardOf_16 kc_iconst_0 ?_
    subst hf
    exact hret H locs ls _ dX1_boardOf_17 rfl hS
  · have hf := it_f hf c1
    refine lv_iload_n hx hb dX1_boardOf_7 rfl (lv_at hl 1 rfl) ?_
    refine lv_aload_n hx hb dX1_boardOf_8 rfl (lv_at hl 0 rfl) ?_
    refine va_get (D := D) (ci := 1) (v := .int (n.1 1)) (C := RX1) (T := TX1) (N := 16) hx hb hts inX1 hown hK.1 hP 0 rfl rfl 1 (by decide) (hts (.fieldLink RX1 15 "ClosExchange$Network" "lines" "I") (List.mem_of_getElem? (i := 1) rfl)) (fun _ h9 => h9) rfl dX1_boardOf_9 ?_
    refine lv_idiv hx hb dX1_boardOf_12 (fun h0 => c1 (by rw [h0]; decide)) ?_
    refine lv_goto (tgt := 17) hx hb dX1_boardOf_13 (by decide) ?_
    subst hf
    exact hret H locs ls _ dX1_boardOf_17 rfl hS
set_option maxRecDepth 100000 in
theorem c_X1_boardOf (l : Launch) (D : va_G) (cI cN : ClassId) (q : Nat → Nat) (sz : Nat) (n : OS) (x1 : Int32) (r0 : Int32) (hf : fX1_boardOf n x1 = r0) : CtP l D cI cN yX1_boardOf wsX1_boardOf rm_X1_boardOf [.ref (q 0), .int x1] (nwW cI q n) sz r0 := by
  refine mP (cc := cX1_boardOf) (maxL := 2) (ty := .int) (by decide) rfl rfl (Nat.le_of_ble_eq_true rfl) ?_
  intro p e s m args below meth c Q S hK hP hS hret ls hl
  exact w_X1_boardOf_0 S hK hret hf _ _ _ hP hS (lv_sub (show lv_has ls 2 [(0, .ref (q 0)), (1, .int x1)] from hl) [0, 1] rfl)
abbrev rm_X1_countCalls : Room := { frames := 1, cells := 0, slots := 0, locals := 21 }
theorem in_X1_countCalls_X1 : ∀ w ∈ u_ws RX1 TX1 16, w ∈ wsX1_countCalls := fun w h => List.mem_cons_of_mem _ (List.mem_append_left _ (List.mem_append_right _ h))
set_option maxRecDepth 100000 in
set_option maxHeartbeats 4000000 in
theorem w_X1_countCalls_4 {p : Program} {l : Launch} {e : Env} {s : State} {m : MethodId} {args : Array Value} {below : List Frame} {meth : Method} {c : Code} {Q : State → Prop} {D : va_G} {cI cN : ClassId} {q : Nat → Nat} (S : CallFix p m c cX1_countCalls 3 s args wsX1_countCalls RX1) (hK : KN D cI cN s) {n : OS} {r0 : Int32} (hret : ∀ (H : Heap) (locs : List Loc) (ls : Array Slot) (pc : Nat), decode cX1_countCalls pc = .ok (.ireturn, 1) → narrow .int (.int r0) = .int r0 → va_S (nwA s.heap.size) s.heap H locs → W p l e (headSpec wsX1_countCalls rm_X1_countCalls).room s m args below meth c H locs 0 0 Q (F0 m pc ls [.int r0])) : ∀ (k : Nat) (x1 : Int32) (x2 : Int32), fX1_countCalls_4 n k x1 x2 = some r0 → ∀ (H : Heap) (locs : List Loc) (ls : Array Slot), va_P D vwCl (nwW cI q n) H → va_S (nwA s.heap.size) s.heap H locs → lv_has ls 3 [(0, .ref (q 0)), (1, .int x1), (2, .int x2)] → W p l e (headSpec wsX1_countCalls rm_X1_countCalls).room s m args below meth c H locs 0 0 Q (F0 m 4 ls []) := by
  obtain ⟨hx, hb, hml, hown, hts⟩ := id S
  have inX1 := in_X1_countCalls_X1
  have hA : ∀ q : Nat, s.heap.size ≤ q → nwA s.heap.size q := fun _ h => h
  intro k
  induction k with
  | zero => intro x1 x2 hf; rw [fX1_countCalls_4_z] at hf; cases hf
  | succ k ih =>
    intro x1 x2 hf H locs ls hP hS hl
    rw [fX1_countCalls_4_s] at hf
    refine lv_iload_n hx hb dX1_countCalls_4 rfl (lv_at hl 2 rfl) ?_
    refine lv_bipush (v := (48 : Int32)) hx hb dX1_countCalls_5 kc_bipush_48 ?_
    refine lv_icmp_ge (tgt := 35) hx hb dX1_countCalls_7 (by decide) (fun c1 => ?_) (fun c1 => ?_)
    · have hf := it_t hf c1
      refine lv_iload_n hx hb dX1_countCalls_35 rfl (lv_at hl 1 rfl) ?_
      cases hf
      exact hret H locs ls _ dX1_countCalls_36 rfl hS
    · have hf := it_f hf c1
      refine lv_iload_n hx hb dX1_countCalls_10 rfl (lv_at hl 1 rfl) ?_
      refine lv_aload_n hx hb dX1_countCalls_11 rfl (lv_at hl 0 rfl) ?_
      refine va_get (D := D) (ci := 1) (v := .ref (q 1)) (C := RX1) (T := TX1) (N := 16) hx hb hts inX1 hown hK.1 hP 0 rfl rfl 10 (by decide) (hts (.fieldLink RX1 29 "ClosExchange$Network" "numbers" "LClosExchange$Row;") (List.mem_of_getElem? (i := 1) rfl)) (fun _ h9 => h9) rfl dX1_countCalls_12 ?_
      refine lv_iload_n hx hb dX1_countCalls_15 rfl (lv_at hl 2 rfl) ?_
      refine cPi (As := [.int x2]) (rest := [.int x1]) (q0 := 1) (ci := 4) S (c_X4_get l D cI cN (q 1) (q 7) 48 (Nat.le_of_ble_eq_true rfl) _ (n.2 0) x2) (cwV 1 hts gX1_countCalls_X4_get rfl rfl rfl (by decide +kernel) ⟨Nat.le_of_ble_eq_true rfl, Nat.le_of_ble_eq_true rfl⟩) hK hP hS hA [1, 7] rfl rfl rfl rfl hl.1 rfl (Nat.le_of_ble_eq_true rfl) dX1_countCalls_16 ⟨Nat.zero_le _, Nat.zero_le _⟩ (fun H locs hP hS => ?_)
      refine lv_if_lt (tgt := 26) hx hb dX1_countCalls_19 (by decide) (fun c2 => ?_) (fun c2 => ?_)
      · have hf := it_t hf c2
        refine lv_iconst (v := (0 : Int32)) hx hb dX1_countCalls_26 kc_iconst_0 ?_
        refine lv_iadd hx hb dX1_countCalls_27 ?_
        refine lv_istore_n (lv' := [(1, .int (x1 + (0 : Int32))), (0, .ref (q 0)), (2, .int x2)]) hx hb dX1_countCalls_28 rfl hl (by decide) rfl (fun ls hl => ?_)
        refine lv_iinc (v := (x2 + (1 : Int32))) (lv' := [(2, .int (x2 + (1 : Int32))), (1, .int (x1 + (0 : Int32))), (0, .ref (q 0))]) hx hb dX1_countCalls_29 hl (k := 2) rfl rfl (by decide) rfl (fun ls hl => ?_)
        refine lv_goto (tgt := 4) hx hb dX1_countCalls_32 (by decide) ?_
        exact ih _ _ hf H locs ls hP hS (lv_sub hl [2, 1, 0] rfl)
      · have hf := it_f hf c2
        refine lv_iconst (v := (1 : Int32)) hx hb dX1_countCalls_22 kc_iconst_1 ?_
        refine lv_goto (tgt := 27) hx hb dX1_countCalls_23 (by decide) ?_
        refine lv_iadd hx hb dX1_countCalls_27 ?_
        refine lv_istore_n (lv' := [(1, .int (x1 + (1 : Int32))), (0, .ref (q 0)), (2, .int x2)]) hx hb dX1_countCalls_28 rfl hl (by decide) rfl (fun ls hl => ?_)
        refine lv_iinc (v := (x2 + (1 : Int32))) (lv' := [(2, .int (x2 + (1 : Int32))), (1, .int (x1 + (1 : Int32))), (0, .ref (q 0))]) hx hb dX1_countCalls_29 hl (k := 2) rfl rfl (by decide) rfl (fun ls hl => ?_)
        refine lv_goto (tgt := 4) hx hb dX1_countCalls_32 (by decide) ?_
        exact ih _ _ hf H locs ls hP hS (lv_sub hl [2, 1, 0] rfl)
set_option maxRecDepth 100000 in
set_option maxHeartbeats 4000000 in
theorem w_X1_countCalls_0 {p : Program} {l : Launch} {e : Env} {s : State} {m : MethodId} {args : Array Value} {below : List Frame} {meth : Method} {c : Code} {Q : State → Prop} {D : va_G} {cI cN : ClassId} {q : Nat → Nat} (S : CallFix p m c cX1_countCalls 3 s args wsX1_countCalls RX1) (hK : KN D cI cN s) {n : OS} {r0 : Int32} (hret : ∀ (H : Heap) (locs : List Loc) (ls : Array Slot) (pc : Nat), decode cX1_countCalls pc = .ok (.ireturn, 1) → narrow .int (.int r0) = .int r0 → va_S (nwA s.heap.size) s.heap H locs → W p l e (headSpec wsX1_countCalls rm_X1_countCalls).room s m args below meth c H locs 0 0 Q (F0 m pc ls [.int r0])) (hf : fX1_countCalls n = some r0) (H : Heap) (locs : List Loc) (ls : Array Slot) (hP : va_P D vwCl (nwW cI q n) H) (hS : va_S (nwA s.heap.size) s.heap H locs) (hl : lv_has ls 3 [(0, .ref (q 0))]) : W p l e (headSpec wsX1_countCalls rm_X1_countCalls).room s m args below meth c H locs 0 0 Q (F0 m 0 ls []) := by
  obtain ⟨hx, hb, hml, hown, hts⟩ := id S
  have inX1 := in_X1_countCalls_X1
  have hA : ∀ q : Nat, s.heap.size ≤ q → nwA s.heap.size q := fun _ h => h
  unfold fX1_countCalls at hf
  refine lv_iconst (v := (0 : Int32)) hx hb dX1_countCalls_0 kc_iconst_0 ?_
  refine lv_istore_n (lv' := [(1, .int (0 : Int32)), (0, .ref (q 0))]) hx hb dX1_countCalls_1 rfl hl (by decide) rfl (fun ls hl => ?_)
  refine lv_iconst (v := (0 : Int32)) hx hb dX1_countCalls_2 kc_iconst_0 ?_
  refine lv_istore_n (lv' := [(2, .int (0 : Int32)), (1, .int (0 : Int32)), (0, .ref (q 0))]) hx hb dX1_countCalls_3 rfl hl (by decide) rfl (fun ls hl => ?_)
  exact w_X1_countCalls_4 S hK hret _ _ _ hf H locs ls hP hS (lv_sub hl [2, 1, 0] rfl)
set_option maxRecDepth 100000 in
theorem c_X1_countCalls (l : Launch) (D : va_G) (cI cN : ClassId) (q : Nat → Nat) (sz : Nat) (n : OS) (r0 : Int32) (hf : fX1_countCalls n = some r0) : CtP l D cI cN yX1_countCalls wsX1_countCalls rm_X1_countCalls [.ref (q 0)] (nwW cI q n) sz r0 := by
  refine mP (cc := cX1_countCalls) (maxL := 3) (ty := .int) (by decide) rfl rfl (Nat.le_of_ble_eq_true rfl) ?_
  intro p e s m args below meth c Q S hK hP hS hret ls hl
  exact w_X1_countCalls_0 S hK hret hf _ _ _ hP hS (lv_sub (show lv_has ls 3 [(0, .ref (q 0))] from hl) [0] rfl)
abbrev rm_X1_findInlet : Room := { frames := 1, cells := 0, slots := 0, locals := 21 }
theorem in_X1_findInlet_X1 : ∀ w ∈ u_ws RX1 TX1 16, w ∈ wsX1_findInlet := fun w h => List.mem_cons_of_mem _ (List.mem_append_left _ (List.mem_append_right _ h))
set_option maxRecDepth 100000 in
set_option maxHeartbeats 4000000 in
theorem w_X1_findInlet_8 {p : Program} {l : Launch} {e : Env} {s : State} {m : MethodId} {args : Array Value} {below : List Frame} {meth : Method} {c : Code} {Q : State → Prop} {D : va_G} {cI cN : ClassId} {q : Nat → Nat} (S : CallFix p m c cX1_findInlet 3 s args wsX1_findInlet RX1) (hK : KN D cI cN s) {n : OS} {x1 : Int32} {r0 : Int32} (hret : ∀ (H : Heap) (locs : List Loc) (ls : Array Slot) (pc : Nat), decode cX1_findInlet pc = .ok (.ireturn, 1) → narrow .int (.int r0) = .int r0 → va_S (nwA s.heap.size) s.heap H locs → W p l e (headSpec wsX1_findInlet rm_X1_findInlet).room s m args below meth c H locs 0 0 Q (F0 m pc ls [.int r0])) : ∀ (k : Nat) (x2 : Int32), fX1_findInlet_8 n x1 k x2 = some r0 → ∀ (H : Heap) (locs : List Loc) (ls : Array Slot), va_P D vwCl (nwW cI q n) H → va_S (nwA s.heap.size) s.heap H locs → lv_has ls 3 [(0, .ref (q 0)), (1, .int x1), (2, .int x2)] → W p l e (headSpec wsX1_findInlet rm_X1_findInlet).room s m args below meth c H locs 0 0 Q (F0 m 8 ls []) := by
  obtain ⟨hx, hb, hml, hown, hts⟩ := id S
  have inX1 := in_X1_findInlet_X1
  have hA : ∀ q : Nat, s.heap.size ≤ q → nwA s.heap.size q := fun _ h => h
  intro k
  induction k with
  | zero => intro x2 hf; rw [fX1_findInlet_8_z] at hf; cases hf
  | succ k ih =>
    intro x2 hf H locs ls hP hS hl
    rw [fX1_findInlet_8_s] at hf
    refine lv_iload_n hx hb dX1_findInlet_8 rfl (lv_at hl 2 rfl) ?_
    refine lv_bipush (v := (48 : Int32)) hx hb dX1_findInlet_9 kc_bipush_48 ?_
    refine lv_icmp_ge (tgt := 34) hx hb dX1_findInlet_11 (by decide) (fun c2 => ?_) (fun c2 => ?_)
    · have hf := it_t hf c2
      refine lv_iconst (v := (-1 : Int32)) hx hb dX1_findInlet_34 kc_iconst_m1 ?_
      cases hf
      exact hret H locs ls _ dX1_findInlet_35 rfl hS
    · have hf := it_f hf c2
      refine lv_aload_n hx hb dX1_findInlet_14 rfl (lv_at hl 0 rfl) ?_
      refine va_get (D := D) (ci := 1) (v := .ref (q 1)) (C := RX1) (T := TX1) (N := 16) hx hb hts inX1 hown hK.1 hP 0 rfl rfl 10 (by decide) (hts (.fieldLink RX1 29 "ClosExchange$Network" "numbers" "LClosExchange$Row;") (List.mem_of_getElem? (i := 1) rfl)) (fun _ h9 => h9) rfl dX1_findInlet_15 ?_
      refine lv_iload_n hx hb dX1_findInlet_18 rfl (lv_at hl 2 rfl) ?_
      refine cPi (As := [.int x2]) (rest := []) (q0 := 1) (ci := 4) S (c_X4_get l D cI cN (q 1) (q 7) 48 (Nat.le_of_ble_eq_true rfl) _ (n.2 0) x2) (cwV 1 hts gX1_findInlet_X4_get rfl rfl rfl (by decide +kernel) ⟨Nat.le_of_ble_eq_true rfl, Nat.le_of_ble_eq_true rfl⟩) hK hP hS hA [1, 7] rfl rfl rfl rfl hl.1 rfl (Nat.le_of_ble_eq_true rfl) dX1_findInlet_19 ⟨Nat.zero_le _, Nat.zero_le _⟩ (fun H locs hP hS => ?_)
      refine lv_iload_n hx hb dX1_findInlet_22 rfl (lv_at hl 1 rfl) ?_
      refine lv_icmp_ne (tgt := 28) hx hb dX1_findInlet_23 (by decide) (fun c3 => ?_) (fun c3 => ?_)
      · have hf := it_t hf c3
        refine lv_iinc (v := (x2 + (1 : Int32))) (lv' := [(2, .int (x2 + (1 : Int32))), (0, .ref (q 0)), (1, .int x1)]) hx hb dX1_findInlet_28 hl (k := 2) rfl rfl (by decide) rfl (fun ls hl => ?_)
        refine lv_goto (tgt := 8) hx hb dX1_findInlet_31 (by decide) ?_
        exact ih _ hf H locs ls hP hS (lv_sub hl [1, 2, 0] rfl)
      · have hf := it_f hf c3
        refine lv_iload_n hx hb dX1_findInlet_26 rfl (lv_at hl 2 rfl) ?_
        cases hf
        exact hret H locs ls _ dX1_findInlet_27 rfl hS
set_option maxRecDepth 100000 in
set_option maxHeartbeats 4000000 in
theorem w_X1_findInlet_0 {p : Program} {l : Launch} {e : Env} {s : State} {m : MethodId} {args : Array Value} {below : List Frame} {meth : Method} {c : Code} {Q : State → Prop} {D : va_G} {cI cN : ClassId} {q : Nat → Nat} (S : CallFix p m c cX1_findInlet 3 s args wsX1_findInlet RX1) (hK : KN D cI cN s) {n : OS} {x1 : Int32} {r0 : Int32} (hret : ∀ (H : Heap) (locs : List Loc) (ls : Array Slot) (pc : Nat), decode cX1_findInlet pc = .ok (.ireturn, 1) → narrow .int (.int r0) = .int r0 → va_S (nwA s.heap.size) s.heap H locs → W p l e (headSpec wsX1_findInlet rm_X1_findInlet).room s m args below meth c H locs 0 0 Q (F0 m pc ls [.int r0])) (hf : fX1_findInlet n x1 = some r0) (H : Heap) (locs : List Loc) (ls : Array Slot) (hP : va_P D vwCl (nwW cI q n) H) (hS : va_S (nwA s.heap.size) s.heap H locs) (hl : lv_has ls 3 [(0, .ref (q 0)), (1, .int x1)]) : W p l e (headSpec wsX1_findInlet rm_X1_findInlet).room s m args below meth c H locs 0 0 Q (F0 m 0 ls []) := by
  obtain ⟨hx, hb, hml, hown, hts⟩ := id S
  have inX1 := in_X1_findInlet_X1
  have hA : ∀ q : Nat, s.heap.size ≤ q → nwA s.heap.size q := fun _ h => h
  unfold fX1_findInlet at hf
  refine lv_iload_n hx hb dX1_findInlet_0 rfl (lv_at hl 1 rfl) ?_
  refine lv_if_ge (tgt := 6) hx hb dX1_findInlet_1 (by decide) (fun c1 => ?_) (fun c1 => ?_)
  · have hf := it_t hf c1
    refine lv_iconst (v := (0 : Int32)) hx hb dX1_findInlet_6 kc_iconst_0 ?_
    refine lv_istore_n (lv' := [(2, .int (0 : Int32)), (0, .ref (q 0)), (1, .int x1)]) hx hb dX1_findInlet_7 rfl hl (by decide) rfl (fun ls hl => ?_)
    exact w_X1_findInlet_8 S hK hret _ _ hf H locs ls hP hS (lv_sub hl [1, 2, 0] rfl)
  · have hf := it_f hf c1
    refine lv_iconst (v := (-1 : Int32)) hx hb dX1_findInlet_4 kc_iconst_m1 ?_
    cases hf
    exact hret H locs ls _ dX1_findInlet_5 rfl hS
set_option maxRecDepth 100000 in
theorem c_X1_findInlet (l : Launch) (D : va_G) (cI cN : ClassId) (q : Nat → Nat) (sz : Nat) (n : OS) (x1 : Int32) (r0 : Int32) (hf : fX1_findInlet n x1 = some r0) : CtP l D cI cN yX1_findInlet wsX1_findInlet rm_X1_findInlet [.ref (q 0), .int x1] (nwW cI q n) sz r0 := by
  refine mP (cc := cX1_findInlet) (maxL := 3) (ty := .int) (by decide) rfl rfl (Nat.le_of_ble_eq_true rfl) ?_
  intro p e s m args below meth c Q S hK hP hS hret ls hl
  exact w_X1_findInlet_0 S hK hret hf _ _ _ hP hS (lv_sub (show lv_has ls 3 [(0, .ref (q 0)), (1, .int x1)] from hl) [0, 1] rfl)
abbrev rm_X1_loadOf : Room := { frames := 1, cells := 0, slots := 0, locals := 21 }
theorem in_X1_loadOf_X1 : ∀ w ∈ u_ws RX1 TX1 16, w ∈ wsX1_loadOf := fun w h => List.mem_cons_of_mem _ (List.mem_append_left _ (List.mem_append_right _ h))
set_option maxRecDepth 100000 in
set_option maxHeartbeats 4000000 in
theorem w_X1_loadOf_4 {p : Program} {l : Launch} {e : Env} {s : State} {m : MethodId} {args : Array Value} {below : List Frame} {meth : Method} {c : Code} {Q : State → Prop} {D : va_G} {cI cN : ClassId} {q : Nat → Nat} (S : CallFix p m c cX1_loadOf 4 s args wsX1_loadOf RX1) (hK : KN D cI cN s) {n : OS} {x1 : Int32} {r0 : Int32} (hret : ∀ (H : Heap) (locs : List Loc) (ls : Array Slot) (pc : Nat), decode cX1_loadOf pc = .ok (.ireturn, 1) → narrow .int (.int r0) = .int r0 → va_S (nwA s.heap.size) s.heap H locs → W p l e (headSpec wsX1_loadOf rm_X1_loadOf).room s m args below meth c H locs 0 0 Q (F0 m pc ls [.int r0])) : ∀ (k : Nat) (x2 : Int32) (x3 : Int32), fX1_loadOf_4 n x1 k x2 x3 = some r0 → ∀ (H : Heap) (locs : List Loc) (ls : Array Slot), va_P D vwCl (nwW cI q n) H → va_S (nwA s.heap.size) s.heap H locs → lv_has ls 4 [(0, .ref (q 0)), (1, .int x1), (2, .int x2), (3, .int x3)] → W p l e (headSpec wsX1_loadOf rm_X1_loadOf).room s m args below meth c H locs 0 0 Q (F0 m 4 ls []) := by
  obtain ⟨hx, hb, hml, hown, hts⟩ := id S
  have inX1 := in_X1_loadOf_X1
  have hA : ∀ q : Nat, s.heap.size ≤ q → nwA s.heap.size q := fun _ h => h
  intro k
  induction k with
  | zero => intro x2 x3 hf; rw [fX1_loadOf_4_z] at hf; cases hf
  | succ k ih =>
    intro x2 x3 hf H locs ls hP hS hl
    rw [fX1_loadOf_4_s] at hf
    refine lv_iload_n hx hb dX1_loadOf_4 rfl (lv_at hl 3 rfl) ?_
    refine lv_aload_n hx hb dX1_loadOf_5 rfl (lv_at hl 0 rfl) ?_
    refine va_get (D := D) (ci := 1) (v := .int (n.1 0)) (C := RX1) (T := TX1) (N := 16) hx hb hts inX1 hown hK.1 hP 0 rfl rfl 0 (by decide) (hts (.fieldLink RX1 9 "ClosExchange$Network" "boards" "I") (List.mem_of_getElem? (i := 1) rfl)) (fun _ h9 => h9) rfl dX1_loadOf_6 ?_
    refine lv_icmp_ge (tgt := 41) hx hb dX1_loadOf_9 (by decide) (fun c1 => ?_) (fun c1 => ?_)
    · have hf := it_t hf c1
      refine lv_iload_n hx hb dX1_loadOf_41 rfl (lv_at hl 2 rfl) ?_
      cases hf
      exact hret H locs ls _ dX1_loadOf_42 rfl hS
    · have hf := it_f hf c1
      refine lv_iload_n hx hb dX1_loadOf_12 rfl (lv_at hl 2 rfl) ?_
      refine lv_aload_n hx hb dX1_loadOf_13 rfl (lv_at hl 0 rfl) ?_
      refine va_get (D := D) (ci := 1) (v := .ref (q 5)) (C := RX1) (T := TX1) (N := 16) hx hb hts inX1 hown hK.1 hP 0 rfl rfl 14 (by decide) (hts (.fieldLink RX1 42 "ClosExchange$Network" "firstLinks" "LClosExchange$Row;") (List.mem_of_getElem? (i := 2) rfl)) (fun _ h9 => h9) rfl dX1_loadOf_14 ?_
      refine lv_iload_n hx hb dX1_loadOf_17 rfl (lv_at hl 3 rfl) ?_
      refine lv_iload_n hx hb dX1_loadOf_18 rfl (lv_at hl 1 rfl) ?_
      refine cNi (As := [.int x3, .int x1]) (rest := [.ref (q 5), .int x2]) S (c_X5_link l D cI cN _ x3 x1 (fX5_link x3 x1) rfl) ⟨va_cnB 2 hts gX1_loadOf_X5_link_n81 rfl rfl rfl hK.2.1 (hts (.initialized RX5) (List.mem_of_getElem? (i := 4) rfl)) (by decide +kernel) ⟨Nat.le_of_ble_eq_true rfl, Nat.le_of_ble_eq_true rfl⟩, (hts (.static yX5_link) (List.mem_of_getElem? (i := 3) rfl)), trivial⟩ hK hP hS hA [] rfl rfl hl.1 rfl (Nat.le_of_ble_eq_true rfl) dX1_loadOf_19 ⟨Nat.zero_le _, Nat.zero_le _⟩ (fun H locs hP hS => ?_)
      refine cPi (As := [.int (fX5_link x3 x1)]) (rest := [.int x2]) (q0 := 5) (ci := 4) S (c_X4_get l D cI cN (q 5) (q 11) 64 (Nat.le_of_ble_eq_true rfl) _ (n.2 4) (fX5_link x3 x1)) (cwV 1 hts gX1_loadOf_X4_get rfl rfl rfl (by decide +kernel) ⟨Nat.le_of_ble_eq_true rfl, Nat.le_of_ble_eq_true rfl⟩) hK hP hS hA [5, 11] rfl rfl rfl rfl hl.1 rfl (Nat.le_of_ble_eq_true rfl) dX1_loadOf_22 ⟨Nat.zero_le _, Nat.zero_le _⟩ (fun H locs hP hS => ?_)
      refine lv_if_lt (tgt := 32) hx hb dX1_loadOf_25 (by decide) (fun c2 => ?_) (fun c2 => ?_)
      · have hf := it_t hf c2
        refine lv_iconst (v := (0 : Int32)) hx hb dX1_loadOf_32 kc_iconst_0 ?_
        refine lv_iadd hx hb dX1_loadOf_33 ?_
        refine lv_istore_n (lv' := [(2, .int (x2 + (0 : Int32))), (0, .ref (q 0)), (1, .int x1), (3, .int x3)]) hx hb dX1_loadOf_34 rfl hl (by decide) rfl (fun ls hl => ?_)
        refine lv_iinc (v := (x3 + (1 : Int32))) (lv' := [(3, .int (x3 + (1 : Int32))), (2, .int (x2 + (0 : Int32))), (0, .ref (q 0)), (1, .int x1)]) hx hb dX1_loadOf_35 hl (k := 3) rfl rfl (by decide) rfl (fun ls hl => ?_)
        refine lv_goto (tgt := 4) hx hb dX1_loadOf_38 (by decide) ?_
        exact ih _ _ hf H locs ls hP hS (lv_sub hl [2, 3, 1, 0] rfl)
      · have hf := it_f hf c2
        refine lv_iconst (v := (1 : Int32)) hx hb dX1_loadOf_28 kc_iconst_1 ?_
        refine lv_goto (tgt := 33) hx hb dX1_loadOf_29 (by decide) ?_
        refine lv_iadd hx hb dX1_loadOf_33 ?_
        refine lv_istore_n (lv' := [(2, .int (x2 + (1 : Int32))), (0, .ref (q 0)), (1, .int x1), (3, .int x3)]) hx hb dX1_loadOf_34 rfl hl (by decide) rfl (fun ls hl => ?_)
        refine lv_iinc (v := (x3 + (1 : Int32))) (lv' := [(3, .int (x3 + (1 : Int32))), (2, .int (x2 + (1 : Int32))), (0, .ref (q 0)), (1, .int x1)]) hx hb dX1_loadOf_35 hl (k := 3) rfl rfl (by decide) rfl (fun ls hl => ?_)
        refine lv_goto (tgt := 4) hx hb dX1_loadOf_38 (by decide) ?_
        exact ih _ _ hf H locs ls hP hS (lv_sub hl [2, 3, 1, 0] rfl)
set_option maxRecDepth 100000 in
set_option maxHeartbeats 4000000 in
theorem w_X1_loadOf_0 {p : Program} {l : Launch} {e : Env} {s : State} {m : MethodId} {args : Array Value} {below : List Frame} {meth : Method} {c : Code} {Q : State → Prop} {D : va_G} {cI cN : ClassId} {q : Nat → Nat} (S : CallFix p m c cX1_loadOf 4 s args wsX1_loadOf RX1) (hK : KN D cI cN s) {n : OS} {x1 : Int32} {r0 : Int32} (hret : ∀ (H : Heap) (locs : List Loc) (ls : Array Slot) (pc : Nat), decode cX1_loadOf pc = .ok (.ireturn, 1) → narrow .int (.int r0) = .int r0 → va_S (nwA s.heap.size) s.heap H locs → W p l e (headSpec wsX1_loadOf rm_X1_loadOf).room s m args below meth c H locs 0 0 Q (F0 m pc ls [.int r0])) (hf : fX1_loadOf n x1 = some r0) (H : Heap) (locs : List Loc) (ls : Array Slot) (hP : va_P D vwCl (nwW cI q n) H) (hS : va_S (nwA s.heap.size) s.heap H locs) (hl : lv_has ls 4 [(0, .ref (q 0)), (1, .int x1)]) : W p l e (headSpec wsX1_loadOf rm_X1_loadOf).room s m args below meth c H locs 0 0 Q (F0 m 0 ls []) := by
  obtain ⟨hx, hb, hml, hown, hts⟩ := id S
  have inX1 := in_X1_loadOf_X1
  have hA : ∀ q : Nat, s.heap.size ≤ q → nwA s.heap.size q := fun _ h => h
  unfold fX1_loadOf at hf
  refine lv_iconst (v := (0 : Int32)) hx hb dX1_loadOf_0 kc_iconst_0 ?_
  refine lv_istore_n (lv' := [(2, .int (0 : Int32)), (0, .ref (q 0)), (1, .int x1)]) hx hb dX1_loadOf_1 rfl hl (by decide) rfl (fun ls hl => ?_)
  refine lv_iconst (v := (0 : Int32)) hx hb dX1_loadOf_2 kc_iconst_0 ?_
  refine lv_istore_n (lv' := [(3, .int (0 : Int32)), (2, .int (0 : Int32)), (0, .ref (q 0)), (1, .int x1)]) hx hb dX1_loadOf_3 rfl hl (by decide) rfl (fun ls hl => ?_)
  exact w_X1_loadOf_4 S hK hret _ _ _ hf H locs ls hP hS (lv_sub hl [2, 3, 1, 0] rfl)
set_option maxRecDepth 100000 in
theorem c_X1_loadOf (l : Launch) (D : va_G) (cI cN : ClassId) (q : Nat → Nat) (sz : Nat) (n : OS) (x1 : Int32) (r0 : Int32) (hf : fX1_loadOf n x1 = some r0) : CtP l D cI cN yX1_loadOf wsX1_loadOf rm_X1_loadOf [.ref (q 0), .int x1] (nwW cI q n) sz r0 := by
  refine mP (cc := cX1_loadOf) (maxL := 4) (ty := .int) (by decide) rfl rfl (Nat.le_of_ble_eq_true rfl) ?_
  intro p e s m args below meth c Q S hK hP hS hret ls hl
  exact w_X1_loadOf_0 S hK hret hf _ _ _ hP hS (lv_sub (show lv_has ls 4 [(0, .ref (q 0)), (1, .int x1)] from hl) [0, 1] rfl)
abbrev rm_X1_fullestBoard : Room := { frames := 2, cells := 0, slots := 0, locals := 42 }
theorem in_X1_fullestBoard_X1 : ∀ w ∈ u_ws RX1 TX1 16, w ∈ wsX1_fullestBoard := fun w h => List.mem_cons_of_mem _ (List.mem_append_left _ (List.mem_append_right _ h))
set_option maxRecDepth 100000 in
set_option maxHeartbeats 4000000 in
theorem w_X1_fullestBoard_25 {p : Program} {l : Launch} {e : Env} {s : State} {m : MethodId} {args : Array Value} {below : List Frame} {meth : Method} {c : Code} {Q : State → Prop} {D : va_G} {cI cN : ClassId} {q : Nat → Nat} (S : CallFix p m c cX1_fullestBoard 6 s args wsX1_fullestBoard RX1) (hK : KN D cI cN s) {n : OS} {x1 : Int32} {x2 : Int32} : ∀ (k : Nat) (x3 : Int32) (x4 : Int32) (x5 : Int32) (out : Int32 × Int32), fX1_fullestBoard_25 n x1 x2 k x3 x4 x5 = some out → ∀ (H : Heap) (locs : List Loc) (ls : Array Slot), va_P D vwCl (nwW cI q n) H → va_S (nwA s.heap.size) s.heap H locs → lv_has ls 6 [(0, .ref (q 0)), (1, .int x1), (2, .int x2), (3, .int x3), (4, .int x4), (5, .int x5)] → (∀ (H : Heap) (locs : List Loc) (ls : Array Slot), va_P D vwCl (nwW cI q n) H → va_S (nwA s.heap.size) s.heap H locs → lv_has ls 6 [(0, .ref (q 0)), (1, .int x1), (2, .int x2), (3, .int out.1), (4, .int out.2)] → W p l e (headSpec wsX1_fullestBoard rm_X1_fullestBoard).room s m args below meth c H locs 0 0 Q (F0 m 80 ls [])) → W p l e (headSpec wsX1_fullestBoard rm_X1_fullestBoard).room s m args below meth c H locs 0 0 Q (F0 m 25 ls []) := by
  obtain ⟨hx, hb, hml, hown, hts⟩ := id S
  have inX1 := in_X1_fullestBoard_X1
  have hA : ∀ q : Nat, s.heap.size ≤ q → nwA s.heap.size q := fun _ h => h
  intro k
  induction k with
  | zero => intro x3 x4 x5 out hf; rw [fX1_fullestBoard_25_z] at hf; cases hf
  | succ k ih =>
    intro x3 x4 x5 out hf H locs ls hP hS hl kx
    rw [fX1_fullestBoard_25_s] at hf
    refine lv_iload hx hb dX1_fullestBoard_25 (lv_at hl 5 rfl) ?_
    refine lv_iload_n hx hb dX1_fullestBoard_27 rfl (lv_at hl 2 rfl) ?_
    refine lv_iconst (v := (1 : Int32)) hx hb dX1_fullestBoard_28 kc_iconst_1 ?_
    refine lv_iadd hx hb dX1_fullestBoard_29 ?_
    refine lv_aload_n hx hb dX1_fullestBoard_30 rfl (lv_at hl 0 rfl) ?_
    refine va_get (D := D) (ci := 1) (v := .int (n.1 1)) (C := RX1) (T := TX1) (N := 16) hx hb hts inX1 hown hK.1 hP 0 rfl rfl 1 (by decide) (hts (.fieldLink RX1 15 "ClosExchange$Network" "lines" "I") (List.mem_of_getElem? (i := 2) rfl)) (fun _ h9 => h9) rfl dX1_fullestBoard_31 ?_
    refine lv_imul hx hb dX1_fullestBoard_34 ?_
    refine lv_icmp_ge (tgt := 80) hx hb dX1_fullestBoard_35 (by decide) (fun c2 => ?_) (fun c2 => ?_)
    · have hf := it_t hf c2
      cases hf
      exact kx H locs ls hP hS (lv_sub hl [0, 1, 2, 3, 4] rfl)
    · have hf := it_f hf c2
      refine lv_iload_n hx hb dX1_fullestBoard_38 rfl (lv_at hl 3 rfl) ?_
      refine lv_aload_n hx hb dX1_fullestBoard_39 rfl (lv_at hl 0 rfl) ?_
      refine lv_iload hx hb dX1_fullestBoard_40 (lv_at hl 5 rfl) ?_
      refine cPi (As := [.int x5]) (rest := [.int x3]) (q0 := 0) (ci := 1) S (c_X1_isInletBusy l D cI cN q _ n x5 (fX1_isInletBusy n x5) rfl) (cwV 1 hts gX1_fullestBoard_X1_isInletBusy rfl rfl rfl (by decide +kernel) ⟨Nat.le_of_ble_eq_true rfl, Nat.le_of_ble_eq_true rfl⟩) hK hP hS hA [0, 1, 2, 3, 4, 5, 6, 7, 8, 9, 10, 11, 12] rfl rfl rfl rfl hl.1 rfl (Nat.le_of_ble_eq_true rfl) dX1_fullestBoard_42 ⟨Nat.zero_le _, Nat.zero_le _⟩ (fun H locs hP hS => ?_)
      obtain ⟨v4, hg, hf⟩ := it_j hf
      have hj : ∀ (H : Heap) (locs : List Loc) (ls : Array Slot), va_P D vwCl (nwW cI q n) H → va_S (nwA s.heap.size) s.heap H locs → lv_has ls 6 [(0, .ref (q 0)), (1, .int x1), (2, .int x2), (4, .int x4), (5, .int x5)] → W p l e (headSpec wsX1_fullestBoard rm_X1_fullestBoard).room s m args below meth c H locs 0 0 Q (F0 m 53 ls [.int v4, .int x3]) := by
        intro H locs ls hP hS hl
        refine lv_iadd hx hb dX1_fullestBoard_53 ?_
        refine lv_istore_n (lv' := [(3, .int (x3 + v4)), (0, .ref (q 0)), (1, .int x1), (2, .int x2), (4, .int x4), (5, .int x5)]) hx hb dX1_fullestBoard_54 rfl hl (by decide) rfl (fun ls hl => ?_)
        refine lv_iload hx hb dX1_fullestBoard_55 (lv_at hl 4 rfl) ?_
        refine lv_aload_n hx hb dX1_fullestBoard_57 rfl (lv_at hl 1 rfl) ?_
        refine lv_iload hx hb dX1_fullestBoard_58 (lv_at hl 5 rfl) ?_
        refine cPi (As := [.int x5]) (rest := [.int x4]) (q0 := 0) (ci := 1) S (c_X1_isOutletBusy l D cI cN q _ n x5 (fX1_isOutletBusy n x5) rfl) (cwV 1 hts gX1_fullestBoard_X1_isOutletBusy rfl rfl rfl (by decide +kernel) ⟨Nat.le_of_ble_eq_true rfl, Nat.le_of_ble_eq_true rfl⟩) hK hP hS hA [0, 1, 2, 3, 4, 5, 6, 7, 8, 9, 10, 11, 12] rfl rfl rfl rfl hl.1 rfl (Nat.le_of_ble_eq_true rfl) dX1_fullestBoard_60 ⟨Nat.zero_le _, Nat.zero_le _⟩ (fun H locs hP hS => ?_)
        refine lv_if_eq (tgt := 70) hx hb dX1_fullestBoard_63 (by decide) (fun c5 => ?_) (fun c5 => ?_)
        · have hf := it_t hf c5
          refine lv_iconst (v := (0 : Int32)) hx hb dX1_fullestBoard_70 kc_iconst_0 ?_
          refine lv_iadd hx hb dX1_fullestBoard_71 ?_
          refine lv_istore (lv' := [(4, .int (x4 + (0 : Int32))), (3, .int (x3 + v4)), (0, .ref (q 0)), (1, .int x1), (2, .int x2), (5, .int x5)]) hx hb dX1_fullestBoard_72 hl (by decide) rfl (fun ls hl => ?_)
          refine lv_iinc (v := (x5 + (1 : Int32))) (lv' := [(5, .int (x5 + (1 : Int32))), (4, .int (x4 + (0 : Int32))), (3, .int (x3 + v4)), (0, .ref (q 0)), (1, .int x1), (2, .int x2)]) hx hb dX1_fullestBoard_74 hl (k := 5) rfl rfl (by decide) rfl (fun ls hl => ?_)
          refine lv_goto (tgt := 25) hx hb dX1_fullestBoard_77 (by decide) ?_
          exact ih _ _ _ _ hf H locs ls hP hS (lv_sub hl [3, 4, 5, 2, 1, 0] rfl) kx
        · have hf := it_f hf c5
          refine lv_iconst (v := (1 : Int32)) hx hb dX1_fullestBoard_66 kc_iconst_1 ?_
          refine lv_goto (tgt := 71) hx hb dX1_fullestBoard_67 (by decide) ?_
          refine lv_iadd hx hb dX1_fullestBoard_71 ?_
          refine lv_istore (lv' := [(4, .int (x4 + (1 : Int32))), (3, .int (x3 + v4)), (0, .ref (q 0)), (1, .int x1), (2, .int x2), (5, .int x5)]) hx hb dX1_fullestBoard_72 hl (by decide) rfl (fun ls hl => ?_)
          refine lv_iinc (v := (x5 + (1 : Int32))) (lv' := [(5, .int (x5 + (1 : Int32))), (4, .int (x4 + (1 : Int32))), (3, .int (x3 + v4)), (0, .ref (q 0)), (1, .int x1), (2, .int x2)]) hx hb dX1_fullestBoard_74 hl (k := 5) rfl rfl (by decide) rfl (fun ls hl => ?_)
          refine lv_goto (tgt := 25) hx hb dX1_fullestBoard_77 (by decide) ?_
          exact ih _ _ _ _ hf H locs ls hP hS (lv_sub hl [3, 4, 5, 2, 1, 0] rfl) kx
      have hf := hg
      refine lv_if_eq (tgt := 52) hx hb dX1_fullestBoard_45 (by decide) (fun c3 => ?_) (fun c3 => ?_)
      · have hf := it_t hf c3
        refine lv_iconst (v := (0 : Int32)) hx hb dX1_fullestBoard_52 kc_iconst_0 ?_
        subst hf
        exact hj H locs ls hP hS (lv_sub hl [0, 1, 2, 4, 5] rfl)
      · have hf := it_f hf c3
        refine lv_iconst (v := (1 : Int32)) hx hb dX1_fullestBoard_48 kc_iconst_1 ?_
        refine lv_goto (tgt := 53) hx hb dX1_fullestBoard_49 (by decide) ?_
        subst hf
        exact hj H locs ls hP hS (lv_sub hl [0, 1, 2, 4, 5] rfl)
set_option maxRecDepth 100000 in
set_option maxHeartbeats 4000000 in
theorem w_X1_fullestBoard_4 {p : Program} {l : Launch} {e : Env} {s : State} {m : MethodId} {args : Array Value} {below : List Frame} {meth : Method} {c : Code} {Q : State → Prop} {D : va_G} {cI cN : ClassId} {q : Nat → Nat} (S : CallFix p m c cX1_fullestBoard 6 s args wsX1_fullestBoard RX1) (hK : KN D cI cN s) {n : OS} {r0 : Int32} (hret : ∀ (H : Heap) (locs : List Loc) (ls : Array Slot) (pc : Nat), decode cX1_fullestBoard pc = .ok (.ireturn, 1) → narrow .int (.int r0) = .int r0 → va_S (nwA s.heap.size) s.heap H locs → W p l e (headSpec wsX1_fullestBoard rm_X1_fullestBoard).room s m args below meth c H locs 0 0 Q (F0 m pc ls [.int r0])) : ∀ (k : Nat) (x1 : Int32) (x2 : Int32), fX1_fullestBoard_4 n k x1 x2 = some r0 → ∀ (H : Heap) (locs : List Loc) (ls : Array Slot), va_P D vwCl (nwW cI q n) H → va_S (nwA s.heap.size) s.heap H locs → lv_has ls 6 [(0, .ref (q 0)), (1, .int x1), (2, .int x2)] → W p l e (headSpec wsX1_fullestBoard rm_X1_fullestBoard).room s m args below meth c H locs 0 0 Q (F0 m 4 ls []) := by
  obtain ⟨hx, hb, hml, hown, hts⟩ := id S
  have inX1 := in_X1_fullestBoard_X1
  have hA : ∀ q : Nat, s.heap.size ≤ q → nwA s.heap.size q := fun _ h => h
  intro k
  induction k with
  | zero => intro x1 x2 hf; rw [fX1_fullestBoard_4_z] at hf; cases hf
  | succ k ih =>
    intro x1 x2 hf H locs ls hP hS hl
    rw [fX1_fullestBoard_4_s] at hf
    refine lv_iload_n hx hb dX1_fullestBoard_4 rfl (lv_at hl 2 rfl) ?_
    refine lv_aload_n hx hb dX1_fullestBoard_5 rfl (lv_at hl 0 rfl) ?_
    refine va_get (D := D) (ci := 1) (v := .int (n.1 0)) (C := RX1) (T := TX1) (N := 16) hx hb hts inX1 hown hK.1 hP 0 rfl rfl 0 (by decide) (hts (.fieldLink RX1 9 "ClosExchange$Network" "boards" "I") (List.mem_of_getElem? (i := 1) rfl)) (fun _ h9 => h9) rfl dX1_fullestBoard_6 ?_
    refine lv_icmp_ge (tgt := 97) hx hb dX1_fullestBoard_9 (by decide) (fun c1 => ?_) (fun c1 => ?_)
    · have hf := it_t hf c1
      refine lv_iload_n hx hb dX1_fullestBoard_97 rfl (lv_at hl 1 rfl) ?_
      cases hf
      exact hret H locs ls _ dX1_fullestBoard_98 rfl hS
    · have hf := it_f hf c1
      refine lv_iconst (v := (0 : Int32)) hx hb dX1_fullestBoard_12 kc_iconst_0 ?_
      refine lv_istore_n (lv' := [(3, .int (0 : Int32)), (0, .ref (q 0)), (1, .int x1), (2, .int x2)]) hx hb dX1_fullestBoard_13 rfl hl (by decide) rfl (fun ls hl => ?_)
      refine lv_iconst (v := (0 : Int32)) hx hb dX1_fullestBoard_14 kc_iconst_0 ?_
      refine lv_istore (lv' := [(4, .int (0 : Int32)), (3, .int (0 : Int32)), (0, .ref (q 0)), (1, .int x1), (2, .int x2)]) hx hb dX1_fullestBoard_15 hl (by decide) rfl (fun ls hl => ?_)
      refine lv_iload_n hx hb dX1_fullestBoard_17 rfl (lv_at hl 4 rfl) ?_
      refine lv_aload_n hx hb dX1_fullestBoard_18 rfl (lv_at hl 2 rfl) ?_
      refine va_get (D := D) (ci := 1) (v := .int (n.1 1)) (C := RX1) (T := TX1) (N := 16) hx hb hts inX1 hown hK.1 hP 0 rfl rfl 1 (by decide) (hts (.fieldLink RX1 15 "ClosExchange$Network" "lines" "I") (List.mem_of_getElem? (i := 2) rfl)) (fun _ h9 => h9) rfl dX1_fullestBoard_19 ?_
      refine lv_imul hx hb dX1_fullestBoard_22 ?_
      refine lv_istore (lv' := [(5, .int (x2 * (n.1 1))), (4, .int (0 : Int32)), (3, .int (0 : Int32)), (0, .ref (q 0)), (1, .int x1), (2, .int x2)]) hx hb dX1_fullestBoard_23 hl (by decide) rfl (fun ls hl => ?_)
      obtain ⟨v6, hv6, hf⟩ := it_b hf
      refine w_X1_fullestBoard_25 S hK _ _ _ _ _ hv6 H locs ls hP hS (lv_sub hl [3, 4, 5, 2, 1, 0] rfl) (fun H locs ls hP hS hl => ?_)
      refine lv_iload_n hx hb dX1_fullestBoard_80 rfl (lv_at hl 1 rfl) ?_
      refine lv_iload_n hx hb dX1_fullestBoard_81 rfl (lv_at hl 3 rfl) ?_
      refine lv_iload hx hb dX1_fullestBoard_82 (lv_at hl 4 rfl) ?_
      refine va_mmax hx hb (hml.trans hl.1.symm) hown (hts (.methodLink RX1 92 Lib.Math.max.name) (List.mem_of_getElem? (i := 3) rfl)) (hts (.static Lib.Math.max.name) (List.mem_of_getElem? (i := 4) rfl)) (hts (.initialized "java/lang/Math") (List.mem_of_getElem? (i := 5) rfl)) (hts (.code Lib.Math.max.name Lib.Math.max.code 2 (some .int)) (List.mem_of_getElem? (i := 6) rfl)) (Nat.le_of_ble_eq_true rfl) (Nat.le_of_ble_eq_true rfl) (Nat.zero_le _) (Nat.zero_le _) dX1_fullestBoard_84 ?_
      refine va_mmax hx hb (hml.trans hl.1.symm) hown (hts (.methodLink RX1 92 Lib.Math.max.name) (List.mem_of_getElem? (i := 3) rfl)) (hts (.static Lib.Math.max.name) (List.mem_of_getElem? (i := 4) rfl)) (hts (.initialized "java/lang/Math") (List.mem_of_getElem? (i := 5) rfl)) (hts (.code Lib.Math.max.name Lib.Math.max.code 2 (some .int)) (List.mem_of_getElem? (i := 6) rfl)) (Nat.le_of_ble_eq_true rfl) (Nat.le_of_ble_eq_true rfl) (Nat.zero_le _) (Nat.zero_le _) dX1_fullestBoard_87 ?_
      refine lv_istore_n (lv' := [(1, .int (if x1 < (if v6.1 < v6.2 then v6.2 else v6.1) then (if v6.1 < v6.2 then v6.2 else v6.1) else x1)), (0, .ref (q 0)), (2, .int x2), (3, .int v6.1), (4, .int v6.2)]) hx hb dX1_fullestBoard_90 rfl hl (by decide) rfl (fun ls hl => ?_)
      refine lv_iinc (v := (x2 + (1 : Int32))) (lv' := [(2, .int (x2 + (1 : Int32))), (1, .int (if x1 < (if v6.1 < v6.2 then v6.2 else v6.1) then (if v6.1 < v6.2 then v6.2 else v6.1) else x1)), (0, .ref (q 0)), (3, .int v6.1), (4, .int v6.2)]) hx hb dX1_fullestBoard_91 hl (k := 2) rfl rfl (by decide) rfl (fun ls hl => ?_)
      refine lv_goto (tgt := 4) hx hb dX1_fullestBoard_94 (by decide) ?_
      exact ih _ _ hf H locs ls hP hS (lv_sub hl [2, 1, 0] rfl)
set_option maxRecDepth 100000 in
set_option maxHeartbeats 4000000 in
theorem w_X1_fullestBoard_0 {p : Program} {l : Launch} {e : Env} {s : State} {m : MethodId} {args : Array Value} {below : List Frame} {meth : Method} {c : Code} {Q : State → Prop} {D : va_G} {cI cN : ClassId} {q : Nat → Nat} (S : CallFix p m c cX1_fullestBoard 6 s args wsX1_fullestBoard RX1) (hK : KN D cI cN s) {n : OS} {r0 : Int32} (hret : ∀ (H : Heap) (locs : List Loc) (ls : Array Slot) (pc : Nat), decode cX1_fullestBoard pc = .ok (.ireturn, 1) → narrow .int (.int r0) = .int r0 → va_S (nwA s.heap.size) s.heap H locs → W p l e (headSpec wsX1_fullestBoard rm_X1_fullestBoard).room s m args below meth c H locs 0 0 Q (F0 m pc ls [.int r0])) (hf : fX1_fullestBoard n = some r0) (H : Heap) (locs : List Loc) (ls : Array Slot) (hP : va_P D vwCl (nwW cI q n) H) (hS : va_S (nwA s.heap.size) s.heap H locs) (hl : lv_has ls 6 [(0, .ref (q 0))]) : W p l e (headSpec wsX1_fullestBoard rm_X1_fullestBoard).room s m args below meth c H locs 0 0 Q (F0 m 0 ls []) := by
  obtain ⟨hx, hb, hml, hown, hts⟩ := id S
  have inX1 := in_X1_fullestBoard_X1
  have hA : ∀ q : Nat, s.heap.size ≤ q → nwA s.heap.size q := fun _ h => h
  unfold fX1_fullestBoard at hf
  refine lv_iconst (v := (0 : Int32)) hx hb dX1_fullestBoard_0 kc_iconst_0 ?_
  refine lv_istore_n (lv' := [(1, .int (0 : Int32)), (0, .ref (q 0))]) hx hb dX1_fullestBoard_1 rfl hl (by decide) rfl (fun ls hl => ?_)
  refine lv_iconst (v := (0 : Int32)) hx hb dX1_fullestBoard_2 kc_iconst_0 ?_
  refine lv_istore_n (lv' := [(2, .int (0 : Int32)), (1, .int (0 : Int32)), (0, .ref (q 0))]) hx hb dX1_fullestBoard_3 rfl hl (by decide) rfl (fun ls hl => ?_)
  exact w_X1_fullestBoard_4 S hK hret _ _ _ hf H locs ls hP hS (lv_sub hl [2, 1, 0] rfl)
set_option maxRecDepth 100000 in
theorem c_X1_fullestBoard (l : Launch) (D : va_G) (cI cN : ClassId) (q : Nat → Nat) (sz : Nat) (n : OS) (r0 : Int32) (hf : fX1_fullestBoard n = some r0) : CtP l D cI cN yX1_fullestBoard wsX1_fullestBoard rm_X1_fullestBoard [.ref (q 0)] (nwW cI q n) sz r0 := by
  refine mP (cc := cX1_fullestBoard) (maxL := 6) (ty := .int) (by decide) rfl rfl (Nat.le_of_ble_eq_true rfl) ?_
  intro p e s m args below meth c Q S hK hP hS hret ls hl
  exact w_X1_fullestBoard_0 S hK hret hf _ _ _ hP hS (lv_sub (show lv_has ls 6 [(0, .ref (q 0))] from hl) [0] rfl)
abbrev rm_X1_firstLifted : Room := { frames := 2, cells := 0, slots := 0, locals := 42 }
theorem in_X1_firstLifted_X1 : ∀ w ∈ u_ws RX1 TX1 16, w ∈ wsX1_firstLifted := fun w h => List.mem_cons_of_mem _ (List.mem_append_left _ (List.mem_append_right _ h))
set_option maxRecDepth 100000 in
set_option maxHeartbeats 4000000 in
theorem w_X1_firstLifted_5 {p : Program} {l : Launch} {e : Env} {s : State} {m : MethodId} {args : Array Value} {below : List Frame} {meth : Method} {c : Code} {Q : State → Prop} {D : va_G} {cI cN : ClassId} {q : Nat → Nat} (S : CallFix p m c cX1_firstLifted 3 s args wsX1_firstLifted RX1) (hK : KN D cI cN s) {n : OS} {r0 : Int32} (hret : ∀ (H : Heap) (locs : List Loc) (ls : Array Slot) (pc : Nat), decode cX1_firstLifted pc = .ok (.ireturn, 1) → narrow .int (.int r0) = .int r0 → va_S (nwA s.heap.size) s.heap H locs → W p l e (headSpec wsX1_firstLifted rm_X1_firstLifted).room s m args below meth c H locs 0 0 Q (F0 m pc ls [.int r0])) : ∀ (k : Nat) (x1 : Int32) (x2 : Int32), fX1_firstLifted_5 n k x1 x2 = some r0 → ∀ (H : Heap) (locs : List Loc) (ls : Array Slot), va_P D vwCl (nwW cI q n) H → va_S (nwA s.heap.size) s.heap H locs → lv_has ls 3 [(0, .ref (q 0)), (1, .int x1), (2, .int x2)] → W p l e (headSpec wsX1_firstLifted rm_X1_firstLifted).room s m args below meth c H locs 0 0 Q (F0 m 5 ls []) := by
  obtain ⟨hx, hb, hml, hown, hts⟩ := id S
  have inX1 := in_X1_firstLifted_X1
  have hA : ∀ q : Nat, s.heap.size ≤ q → nwA s.heap.size q := fun _ h => h
  intro k
  induction k with
  | zero => intro x1 x2 hf; rw [fX1_firstLifted_5_z] at hf; cases hf
  | succ k ih =>
    intro x1 x2 hf H locs ls hP hS hl
    rw [fX1_firstLifted_5_s] at hf
    refine lv_iload_n hx hb dX1_firstLifted_5 rfl (lv_at hl 2 rfl) ?_
    refine lv_bipush (v := (48 : Int32)) hx hb dX1_firstLifted_6 kc_bipush_48 ?_
    refine lv_icmp_ge (tgt := 61) hx hb dX1_firstLifted_8 (by decide) (fun c1 => ?_) (fun c1 => ?_)
    · have hf := it_t hf c1
      refine lv_iload_n hx hb dX1_firstLifted_61 rfl (lv_at hl 1 rfl) ?_
      cases hf
      exact hret H locs ls _ dX1_firstLifted_62 rfl hS
    · have hf := it_f hf c1
      refine lv_aload_n hx hb dX1_firstLifted_11 rfl (lv_at hl 0 rfl) ?_
      refine lv_iload_n hx hb dX1_firstLifted_12 rfl (lv_at hl 2 rfl) ?_
      refine cPi (As := [.int x2]) (rest := []) (q0 := 0) (ci := 1) S (c_X1_isInletBusy l D cI cN q _ n x2 (fX1_isInletBusy n x2) rfl) (cwV 1 hts gX1_firstLifted_X1_isInletBusy rfl rfl rfl (by decide +kernel) ⟨Nat.le_of_ble_eq_true rfl, Nat.le_of_ble_eq_true rfl⟩) hK hP hS hA [0, 1, 2, 3, 4, 5, 6, 7, 8, 9, 10, 11, 12] rfl rfl rfl rfl hl.1 rfl (Nat.le_of_ble_eq_true rfl) dX1_firstLifted_13 ⟨Nat.zero_le _, Nat.zero_le _⟩ (fun H locs hP hS => ?_)
      refine lv_if_eq (tgt := 55) hx hb dX1_firstLifted_16 (by decide) (fun c2 => ?_) (fun c2 => ?_)
      · have hf := it_t hf c2
        refine lv_iinc (v := (x2 + (1 : Int32))) (lv' := [(2, .int (x2 + (1 : Int32))), (0, .ref (q 0)), (1, .int x1)]) hx hb dX1_firstLifted_55 hl (k := 2) rfl rfl (by decide) rfl (fun ls hl => ?_)
        refine lv_goto (tgt := 5) hx hb dX1_firstLifted_58 (by decide) ?_
        exact ih _ _ hf H locs ls hP hS (lv_sub hl [1, 2, 0] rfl)
      · have hf := it_f hf c2
        refine lv_aload_n hx hb dX1_firstLifted_19 rfl (lv_at hl 0 rfl) ?_
        refine va_get (D := D) (ci := 1) (v := .ref (q 3)) (C := RX1) (T := TX1) (N := 16) hx hb hts inX1 hown hK.1 hP 0 rfl rfl 12 (by decide) (hts (.fieldLink RX1 36 "ClosExchange$Network" "vias" "LClosExchange$Row;") (List.mem_of_getElem? (i := 1) rfl)) (fun _ h9 => h9) rfl dX1_firstLifted_20 ?_
        refine lv_iload_n hx hb dX1_firstLifted_23 rfl (lv_at hl 2 rfl) ?_
        refine cPi (As := [.int x2]) (rest := []) (q0 := 3) (ci := 4) S (c_X4_get l D cI cN (q 3) (q 9) 48 (Nat.le_of_ble_eq_true rfl) _ (n.2 2) x2) (cwV 1 hts gX1_firstLifted_X4_get rfl rfl rfl (by decide +kernel) ⟨Nat.le_of_ble_eq_true rfl, Nat.le_of_ble_eq_true rfl⟩) hK hP hS hA [3, 9] rfl rfl rfl rfl hl.1 rfl (Nat.le_of_ble_eq_true rfl) dX1_firstLifted_24 ⟨Nat.zero_le _, Nat.zero_le _⟩ (fun H locs hP hS => ?_)
        refine lv_if_ge (tgt := 55) hx hb dX1_firstLifted_27 (by decide) (fun c3 => ?_) (fun c3 => ?_)
        · have hf := it_t hf c3
          refine lv_iinc (v := (x2 + (1 : Int32))) (lv' := [(2, .int (x2 + (1 : Int32))), (0, .ref (q 0)), (1, .int x1)]) hx hb dX1_firstLifted_55 hl (k := 2) rfl rfl (by decide) rfl (fun ls hl => ?_)
          refine lv_goto (tgt := 5) hx hb dX1_firstLifted_58 (by decide) ?_
          exact ih _ _ hf H locs ls hP hS (lv_sub hl [1, 2, 0] rfl)
        · have hf := it_f hf c3
          refine lv_iload_n hx hb dX1_firstLifted_30 rfl (lv_at hl 1 rfl) ?_
          refine lv_if_lt (tgt := 53) hx hb dX1_firstLifted_31 (by decide) (fun c4 => ?_) (fun c4 => ?_)
          · have hf := it_t hf c4
            refine lv_iload_n hx hb dX1_firstLifted_53 rfl (lv_at hl 2 rfl) ?_
            refine lv_istore_n (lv' := [(1, .int x2), (0, .ref (q 0)), (2, .int x2)]) hx hb dX1_firstLifted_54 rfl hl (by decide) rfl (fun ls hl => ?_)
            refine lv_iinc (v := (x2 + (1 : Int32))) (lv' := [(2, .int (x2 + (1 : Int32))), (1, .int x2), (0, .ref (q 0))]) hx hb dX1_firstLifted_55 hl (k := 2) rfl rfl (by decide) rfl (fun ls hl => ?_)
            refine lv_goto (tgt := 5) hx hb dX1_firstLifted_58 (by decide) ?_
            exact ih _ _ hf H locs ls hP hS (lv_sub hl [2, 1, 0] rfl)
          · have hf := it_f hf c4
            refine lv_aload_n hx hb dX1_firstLifted_34 rfl (lv_at hl 0 rfl) ?_
            refine va_get (D := D) (ci := 1) (v := .ref (q 1)) (C := RX1) (T := TX1) (N := 16) hx hb hts inX1 hown hK.1 hP 0 rfl rfl 10 (by decide) (hts (.fieldLink RX1 29 "ClosExchange$Network" "numbers" "LClosExchange$Row;") (List.mem_of_getElem? (i := 2) rfl)) (fun _ h9 => h9) rfl dX1_firstLifted_35 ?_
            refine lv_iload_n hx hb dX1_firstLifted_38 rfl (lv_at hl 2 rfl) ?_
            refine cPi (As := [.int x2]) (rest := []) (q0 := 1) (ci := 4) S (c_X4_get l D cI cN (q 1) (q 7) 48 (Nat.le_of_ble_eq_true rfl) _ (n.2 0) x2) (cwV 1 hts gX1_firstLifted_X4_get rfl rfl rfl (by decide +kernel) ⟨Nat.le_of_ble_eq_true rfl, Nat.le_of_ble_eq_true rfl⟩) hK hP hS hA [1, 7] rfl rfl rfl rfl hl.1 rfl (Nat.le_of_ble_eq_true rfl) dX1_firstLifted_39 ⟨Nat.zero_le _, Nat.zero_le _⟩ (fun H locs hP hS => ?_)
            refine lv_aload_n hx hb dX1_firstLifted_42 rfl (lv_at hl 0 rfl) ?_
            refine va_get (D := D) (ci := 1) (v := .ref (q 1)) (C := RX1) (T := TX1) (N := 16) hx hb hts inX1 hown hK.1 hP 0 rfl rfl 10 (by decide) (hts (.fieldLink RX1 29 "ClosExchange$Network" "numbers" "LClosExchange$Row;") (List.mem_of_getElem? (i := 2) rfl)) (fun _ h9 => h9) rfl dX1_firstLifted_43 ?_
            refine lv_iload_n hx hb dX1_firstLifted_46 rfl (lv_at hl 1 rfl) ?_
            refine cPi (As := [.int x1]) (rest := [.int (rget (n.2 0) 48 x2)]) (q0 := 1) (ci := 4) S (c_X4_get l D cI cN (q 1) (q 7) 48 (Nat.le_of_ble_eq_true rfl) _ (n.2 0) x1) (cwV 1 hts gX1_firstLifted_X4_get rfl rfl rfl (by decide +kernel) ⟨Nat.le_of_ble_eq_true rfl, Nat.le_of_ble_eq_true rfl⟩) hK hP hS hA [1, 7] rfl rfl rfl rfl hl.1 rfl (Nat.le_of_ble_eq_true rfl) dX1_firstLifted_47 ⟨Nat.zero_le _, Nat.zero_le _⟩ (fun H locs hP hS => ?_)
            refine lv_icmp_ge (tgt := 55) hx hb dX1_firstLifted_50 (by decide) (fun c5 => ?_) (fun c5 => ?_)
            · have hf := it_t hf c5
              refine lv_iinc (v := (x2 + (1 : Int32))) (lv' := [(2, .int (x2 + (1 : Int32))), (0, .ref (q 0)), (1, .int x1)]) hx hb dX1_firstLifted_55 hl (k := 2) rfl rfl (by decide) rfl (fun ls hl => ?_)
              refine lv_goto (tgt := 5) hx hb dX1_firstLifted_58 (by decide) ?_
              exact ih _ _ hf H locs ls hP hS (lv_sub hl [1, 2, 0] rfl)
            · have hf := it_f hf c5
              refine lv_iload_n hx hb dX1_firstLifted_53 rfl (lv_at hl 2 rfl) ?_
              refine lv_istore_n (lv' := [(1, .int x2), (0, .ref (q 0)), (2, .int x2)]) hx hb dX1_firstLifted_54 rfl hl (by decide) rfl (fun ls hl => ?_)
              refine lv_iinc (v := (x2 + (1 : Int32))) (lv' := [(2, .int (x2 + (1 : Int32))), (1, .int x2), (0, .ref (q 0))]) hx hb dX1_firstLifted_55 hl (k := 2) rfl rfl (by decide) rfl (fun ls hl => ?_)
              refine lv_goto (tgt := 5) hx hb dX1_firstLifted_58 (by decide) ?_
              exact ih _ _ hf H locs ls hP hS (lv_sub hl [2, 1, 0] rfl)
set_option maxRecDepth 100000 in
set_option maxHeartbeats 4000000 in
theorem w_X1_firstLifted_0 {p : Program} {l : Launch} {e : Env} {s : State} {m : MethodId} {args : Array Value} {below : List Frame} {meth : Method} {c : Code} {Q : State → Prop} {D : va_G} {cI cN : ClassId} {q : Nat → Nat} (S : CallFix p m c cX1_firstLifted 3 s args wsX1_firstLifted RX1) (hK : KN D cI cN s) {n : OS} {r0 : Int32} (hret : ∀ (H : Heap) (locs : List Loc) (ls : Array Slot) (pc : Nat), decode cX1_firstLifted pc = .ok (.ireturn, 1) → narrow .int (.int r0) = .int r0 → va_S (nwA s.heap.size) s.heap H locs → W p l e (headSpec wsX1_firstLifted rm_X1_firstLifted).room s m args below meth c H locs 0 0 Q (F0 m pc ls [.int r0])) (hf : fX1_firstLifted n = some r0) (H : Heap) (locs : List Loc) (ls : Array Slot) (hP : va_P D vwCl (nwW cI q n) H) (hS : va_S (nwA s.heap.size) s.heap H locs) (hl : lv_has ls 3 [(0, .ref (q 0))]) : W p l e (headSpec wsX1_firstLifted rm_X1_firstLifted).room s m args below meth c H locs 0 0 Q (F0 m 0 ls []) := by
  obtain ⟨hx, hb, hml, hown, hts⟩ := id S
  have inX1 := in_X1_firstLifted_X1
  have hA : ∀ q : Nat, s.heap.size ≤ q → nwA s.heap.size q := fun _ h => h
  unfold fX1_firstLifted at hf
  refine lv_bipush (v := (-6 : Int32)) hx hb dX1_firstLifted_0 kc_bipush_m6 ?_
  refine lv_istore_n (lv' := [(1, .int (-6 : Int32)), (0, .ref (q 0))]) hx hb dX1_firstLifted_2 rfl hl (by decide) rfl (fun ls hl => ?_)
  refine lv_iconst (v := (0 : Int32)) hx hb dX1_firstLifted_3 kc_iconst_0 ?_
  refine lv_istore_n (lv' := [(2, .int (0 : Int32)), (1, .int (-6 : Int32)), (0, .ref (q 0))]) hx hb dX1_firstLifted_4 rfl hl (by decide) rfl (fun ls hl => ?_)
  exact w_X1_firstLifted_5 S hK hret _ _ _ hf H locs ls hP hS (lv_sub hl [2, 1, 0] rfl)
set_option maxRecDepth 100000 in
theorem c_X1_firstLifted (l : Launch) (D : va_G) (cI cN : ClassId) (q : Nat → Nat) (sz : Nat) (n : OS) (r0 : Int32) (hf : fX1_firstLifted n = some r0) : CtP l D cI cN yX1_firstLifted wsX1_firstLifted rm_X1_firstLifted [.ref (q 0)] (nwW cI q n) sz r0 := by
  refine mP (cc := cX1_firstLifted) (maxL := 3) (ty := .int) (by decide) rfl rfl (Nat.le_of_ble_eq_true rfl) ?_
  intro p e s m args below meth c Q S hK hP hS hret ls hl
  exact w_X1_firstLifted_0 S hK hret hf _ _ _ hP hS (lv_sub (show lv_has ls 3 [(0, .ref (q 0))] from hl) [0] rfl)
abbrev rm_X1_addCall : Room := { frames := 1, cells := 0, slots := 0, locals := 22 }
theorem in_X1_addCall_X1 : ∀ w ∈ u_ws RX1 TX1 16, w ∈ wsX1_addCall := fun w h => List.mem_cons_of_mem _ (List.mem_append_left _ (List.mem_append_right _ h))
set_option maxRecDepth 100000 in
set_option maxHeartbeats 4000000 in
theorem w_X1_addCall_0 {p : Program} {l : Launch} {e : Env} {s : State} {m : MethodId} {args : Array Value} {below : List Frame} {meth : Method} {c : Code} {Q : State → Prop} {D : va_G} {cI cN : ClassId} {A : Nat → Prop} {q : Nat → Nat} (S : CallFix p m c cX1_addCall 3 s args wsX1_addCall RX1) (hK : KN D cI cN s) (hA : ∀ q : Nat, s.heap.size ≤ q → A q) {n : OS} {x1 : Int32} {x2 : Int32} {n' : OS} (hret : ∀ (H : Heap) (locs : List Loc) (ls : Array Slot) (pc : Nat), decode cX1_addCall pc = .ok (.return_, 1) → va_P D vwCl (nwW cI q n') H → va_D A (nwW cI q n') → va_S A s.heap H locs → W p l e (headSpec wsX1_addCall rm_X1_addCall).room s m args below meth c H locs 0 0 Q (F0 m pc ls [])) (hf : fX1_addCall n x1 x2 = n') (H : Heap) (locs : List Loc) (ls : Array Slot) (hP : va_P D vwCl (nwW cI q n) H) (hD : va_D A (nwW cI q n)) (hS : va_S A s.heap H locs) (hl : lv_has ls 3 [(0, .ref (q 0)), (1, .int x1), (2, .int x2)]) : W p l e (headSpec wsX1_addCall rm_X1_addCall).room s m args below meth c H locs 0 0 Q (F0 m 0 ls []) := by
  obtain ⟨hx, hb, hml, hown, hts⟩ := id S
  have inX1 := in_X1_addCall_X1
  unfold fX1_addCall at hf
  refine lv_aload_n hx hb dX1_addCall_0 rfl (lv_at hl 0 rfl) ?_
  refine va_get (D := D) (ci := 1) (v := .ref (q 1)) (C := RX1) (T := TX1) (N := 16) hx hb hts inX1 hown hK.1 hP 0 rfl rfl 10 (by decide) (hts (.fieldLink RX1 29 "ClosExchange$Network" "numbers" "LClosExchange$Row;") (List.mem_of_getElem? (i := 1) rfl)) (fun _ h9 => h9) rfl dX1_addCall_1 ?_
  refine lv_iload_n hx hb dX1_addCall_4 rfl (lv_at hl 1 rfl) ?_
  refine lv_aload_n hx hb dX1_addCall_5 rfl (lv_at hl 0 rfl) ?_
  refine va_get (D := D) (ci := 1) (v := .int (n.1 6)) (C := RX1) (T := TX1) (N := 16) hx hb hts inX1 hown hK.1 hP 0 rfl rfl 6 (by decide) (hts (.fieldLink RX1 54 "ClosExchange$Network" "connected" "I") (List.mem_of_getElem? (i := 2) rfl)) (fun _ h9 => h9) rfl dX1_addCall_6 ?_
  refine cWv (As := [.int x1, .int (n.1 6)]) (rest := []) (wr := pickW (nwW cI q n) [0, 2, 3, 4, 5, 6, 8, 9, 10, 11, 12]) (wf := (nwW cI q (setR n 0 (rset (n.2 0) 48 x1 (n.1 6))))) (q0 := 1) (ci := 4) S (c_X4_set l D cI cN (q 1) (q 7) 48 (Nat.le_of_ble_eq_true rfl) _ (n.2 0) x1 (n.1 6)) (cwV 2 hts gX1_addCall_X4_set rfl rfl rfl (by decide +kernel) ⟨Nat.le_of_ble_eq_true rfl, Nat.le_of_ble_eq_true rfl⟩) hK hP hD hS hA [1, 7] [0, 2, 3, 4, 5, 6, 8, 9, 10, 11, 12] [0, 11, 1, 2, 3, 4, 5, 12, 6, 7, 8, 9, 10] rfl rfl rfl rfl (by decide) rfl rfl rfl rfl rfl hl.1 rfl (Nat.le_of_ble_eq_true rfl) dX1_addCall_9 ⟨Nat.zero_le _, Nat.zero_le _⟩ (fun H locs hP hD hS => ?_)
  refine lv_aload_n hx hb dX1_addCall_12 rfl (lv_at hl 0 rfl) ?_
  refine va_get (D := D) (ci := 1) (v := .ref (q 2)) (C := RX1) (T := TX1) (N := 16) hx hb hts inX1 hown hK.1 hP 0 rfl rfl 11 (by decide) (hts (.fieldLink RX1 33 "ClosExchange$Network" "outlets" "LClosExchange$Row;") (List.mem_of_getElem? (i := 3) rfl)) (fun _ h9 => h9) rfl dX1_addCall_13 ?_
  refine lv_iload_n hx hb dX1_addCall_16 rfl (lv_at hl 1 rfl) ?_
  refine lv_iload_n hx hb dX1_addCall_17 rfl (lv_at hl 2 rfl) ?_
  refine cWv (As := [.int x1, .int x2]) (rest := []) (wr := pickW (nwW cI q (setR n 0 (rset (n.2 0) 48 x1 (n.1 6)))) [0, 1, 3, 4, 5, 6, 7, 9, 10, 11, 12]) (wf := (nwW cI q (setR (setR n 0 (rset (n.2 0) 48 x1 (n.1 6))) 1 (rset (n.2 1) 48 x1 x2)))) (q0 := 2) (ci := 4) S (c_X4_set l D cI cN (q 2) (q 8) 48 (Nat.le_of_ble_eq_true rfl) _ (n.2 1) x1 x2) (cwV 2 hts gX1_addCall_X4_set rfl rfl rfl (by decide +kernel) ⟨Nat.le_of_ble_eq_true rfl, Nat.le_of_ble_eq_true rfl⟩) hK hP hD hS hA [2, 8] [0, 1, 3, 4, 5, 6, 7, 9, 10, 11, 12] [0, 1, 11, 2, 3, 4, 5, 6, 12, 7, 8, 9, 10] rfl rfl rfl rfl (by decide) rfl rfl rfl rfl rfl hl.1 rfl (Nat.le_of_ble_eq_true rfl) dX1_addCall_18 ⟨Nat.zero_le _, Nat.zero_le _⟩ (fun H locs hP hD hS => ?_)
  refine lv_aload_n hx hb dX1_addCall_21 rfl (lv_at hl 0 rfl) ?_
  refine va_get (D := D) (ci := 1) (v := .ref (q 4)) (C := RX1) (T := TX1) (N := 16) hx hb hts inX1 hown hK.1 hP 0 rfl rfl 13 (by decide) (hts (.fieldLink RX1 39 "ClosExchange$Network" "inlets" "LClosExchange$Row;") (List.mem_of_getElem? (i := 4) rfl)) (fun _ h9 => h9) rfl dX1_addCall_22 ?_
  refine lv_iload_n hx hb dX1_addCall_25 rfl (lv_at hl 2 rfl) ?_
  refine lv_iload_n hx hb dX1_addCall_26 rfl (lv_at hl 1 rfl) ?_
  refine cWv (As := [.int x2, .int x1]) (rest := []) (wr := pickW (nwW cI q (setR (setR n 0 (rset (n.2 0) 48 x1 (n.1 6))) 1 (rset (n.2 1) 48 x1 x2))) [0, 1, 2, 3, 5, 6, 7, 8, 9, 11, 12]) (wf := (nwW cI q (setR (setR (setR n 0 (rset (n.2 0) 48 x1 (n.1 6))) 1 (rset (n.2 1) 48 x1 x2)) 3 (rset (n.2 3) 48 x2 x1)))) (q0 := 4) (ci := 4) S (c_X4_set l D cI cN (q 4) (q 10) 48 (Nat.le_of_ble_eq_true rfl) _ (n.2 3) x2 x1) (cwV 2 hts gX1_addCall_X4_set rfl rfl rfl (by decide +kernel) ⟨Nat.le_of_ble_eq_true rfl, Nat.le_of_ble_eq_true rfl⟩) hK hP hD hS hA [4, 10] [0, 1, 2, 3, 5, 6, 7, 8, 9, 11, 12] [0, 1, 2, 3, 11, 4, 5, 6, 7, 8, 12, 9, 10] rfl rfl rfl rfl (by decide) rfl rfl rfl rfl rfl hl.1 rfl (Nat.le_of_ble_eq_true rfl) dX1_addCall_27 ⟨Nat.zero_le _, Nat.zero_le _⟩ (fun H locs hP hD hS => ?_)
  refine lv_aload_n hx hb dX1_addCall_30 rfl (lv_at hl 0 rfl) ?_
  refine lv_dup hx hb dX1_addCall_31 rfl ?_
  refine va_get (D := D) (ci := 1) (v := .int (n.1 6)) (C := RX1) (T := TX1) (N := 16) hx hb hts inX1 hown hK.1 hP 0 rfl rfl 6 (by decide) (hts (.fieldLink RX1 54 "ClosExchange$Network" "connected" "I") (List.mem_of_getElem? (i := 2) rfl)) (fun _ h9 => h9) rfl dX1_addCall_32 ?_
  refine lv_iconst (v := (1 : Int32)) hx hb dX1_addCall_35 kc_iconst_1 ?_
  refine lv_iadd hx hb dX1_addCall_36 ?_
  refine gput (D := D) (ci := 1) (v := .int ((n.1 6) + (1 : Int32))) (ty := .int) (C := RX1) (T := TX1) (N := 16) (wf := (nwW cI q (setF (setR (setR (setR n 0 (rset (n.2 0) 48 x1 (n.1 6))) 1 (rset (n.2 1) 48 x1 x2)) 3 (rset (n.2 3) 48 x2 x1)) 6 ((n.1 6) + (1 : Int32))))) hx hb hts inX1 tyX1 tyX1_ok nmX1 hown hK.1 hP hD hS 0 rfl rfl 6 (by decide) (hts (.fieldLink RX1 54 "ClosExchange$Network" "connected" "I") (List.mem_of_getElem? (i := 2) rfl)) (fun _ h9 => h9) rfl (by decide +kernel) rfl rfl (Nat.le_of_ble_eq_true rfl) dX1_addCall_37 rfl (fun H locs hP hD hS => ?_)
  subst hf
  exact hret H locs ls _ dX1_addCall_40 hP hD hS
set_option maxRecDepth 100000 in
theorem c_X1_addCall (l : Launch) (D : va_G) (cI cN : ClassId) (q : Nat → Nat) (sz : Nat) (n : OS) (x1 : Int32) (x2 : Int32) (n' : OS) (hf : fX1_addCall n x1 x2 = n') : CtV l D cI cN yX1_addCall wsX1_addCall rm_X1_addCall 0 0 [.ref (q 0), .int x1, .int x2] (nwW cI q n) sz (nwW cI q n') := by
  refine mV (cc := cX1_addCall) (maxL := 3) (by decide) rfl (Nat.le_of_ble_eq_true rfl) ?_
  intro p e s m args below meth c Q A S _ hK hP hD hS hA hret ls hl
  exact w_X1_addCall_0 S hK hA hret hf _ _ _ hP hD hS (lv_sub (show lv_has ls 3 [(0, .ref (q 0)), (1, .int x1), (2, .int x2)] from hl) [0, 1, 2] rfl)
abbrev rm_X1_liftCall : Room := { frames := 1, cells := 0, slots := 0, locals := 22 }
theorem in_X1_liftCall_X1 : ∀ w ∈ u_ws RX1 TX1 16, w ∈ wsX1_liftCall := fun w h => List.mem_cons_of_mem _ (List.mem_append_left _ (List.mem_append_right _ h))
set_option maxRecDepth 100000 in
set_option maxHeartbeats 4000000 in
theorem w_X1_liftCall_0 {p : Program} {l : Launch} {e : Env} {s : State} {m : MethodId} {args : Array Value} {below : List Frame} {meth : Method} {c : Code} {Q : State → Prop} {D : va_G} {cI cN : ClassId} {A : Nat → Prop} {q : Nat → Nat} (S : CallFix p m c cX1_liftCall 3 s args wsX1_liftCall RX1) (hK : KN D cI cN s) (hA : ∀ q : Nat, s.heap.size ≤ q → A q) {n : OS} {x1 : Int32} {n' : OS} (hret : ∀ (H : Heap) (locs : List Loc) (ls : Array Slot) (pc : Nat), decode cX1_liftCall pc = .ok (.return_, 1) → va_P D vwCl (nwW cI q n') H → va_D A (nwW cI q n') → va_S A s.heap H locs → W p l e (headSpec wsX1_liftCall rm_X1_liftCall).room s m args below meth c H locs 0 0 Q (F0 m pc ls [])) (hf : fX1_liftCall n x1 = n') (H : Heap) (locs : List Loc) (ls : Array Slot) (hP : va_P D vwCl (nwW cI q n) H) (hD : va_D A (nwW cI q n)) (hS : va_S A s.heap H locs) (hl : lv_has ls 3 [(0, .ref (q 0)), (1, .int x1)]) : W p l e (headSpec wsX1_liftCall rm_X1_liftCall).room s m args below meth c H locs 0 0 Q (F0 m 0 ls []) := by
  obtain ⟨hx, hb, hml, hown, hts⟩ := id S
  have inX1 := in_X1_liftCall_X1
  unfold fX1_liftCall at hf
  refine lv_aload_n hx hb dX1_liftCall_0 rfl (lv_at hl 0 rfl) ?_
  refine va_get (D := D) (ci := 1) (v := .ref (q 3)) (C := RX1) (T := TX1) (N := 16) hx hb hts inX1 hown hK.1 hP 0 rfl rfl 12 (by decide) (hts (.fieldLink RX1 36 "ClosExchange$Network" "vias" "LClosExchange$Row;") (List.mem_of_getElem? (i := 1) rfl)) (fun _ h9 => h9) rfl dX1_liftCall_1 ?_
  refine lv_iload_n hx hb dX1_liftCall_4 rfl (lv_at hl 1 rfl) ?_
  refine cPi (As := [.int x1]) (rest := []) (q0 := 3) (ci := 4) S (c_X4_get l D cI cN (q 3) (q 9) 48 (Nat.le_of_ble_eq_true rfl) _ (n.2 2) x1) (cwV 1 hts gX1_liftCall_X4_get rfl rfl rfl (by decide +kernel) ⟨Nat.le_of_ble_eq_true rfl, Nat.le_of_ble_eq_true rfl⟩) hK hP hS hA [3, 9] rfl rfl rfl rfl hl.1 rfl (Nat.le_of_ble_eq_true rfl) dX1_liftCall_5 ⟨Nat.zero_le _, Nat.zero_le _⟩ (fun H locs hP hS => ?_)
  refine lv_istore_n (lv' := [(2, .int (rget (n.2 2) 48 x1)), (0, .ref (q 0)), (1, .int x1)]) hx hb dX1_liftCall_8 rfl hl (by decide) rfl (fun ls hl => ?_)
  refine lv_iload_n hx hb dX1_liftCall_9 rfl (lv_at hl 0 rfl) ?_
  refine lv_if_lt (tgt := 66) hx hb dX1_liftCall_10 (by decide) (fun c1 => ?_) (fun c1 => ?_)
  · have hf := it_t hf c1
    subst hf
    exact hret H locs ls _ dX1_liftCall_66 hP hD hS
  · have hf := it_f hf c1
    refine lv_aload_n hx hb dX1_liftCall_13 rfl (lv_at hl 1 rfl) ?_
    refine va_get (D := D) (ci := 1) (v := .ref (q 5)) (C := RX1) (T := TX1) (N := 16) hx hb hts inX1 hown hK.1 hP 0 rfl rfl 14 (by decide) (hts (.fieldLink RX1 42 "ClosExchange$Network" "firstLinks" "LClosExchange$Row;") (List.mem_of_getElem? (i := 2) rfl)) (fun _ h9 => h9) rfl dX1_liftCall_14 ?_
    refine lv_aload_n hx hb dX1_liftCall_17 rfl (lv_at hl 1 rfl) ?_
    refine lv_iload_n hx hb dX1_liftCall_18 rfl (lv_at hl 2 rfl) ?_
    refine cPi (As := [.int x1]) (rest := [.ref (q 5)]) (q0 := 0) (ci := 1) S (c_X1_boardOf l D cI cN q _ n x1 (fX1_boardOf n x1) rfl) (cwV 1 hts gX1_liftCall_X1_boardOf rfl rfl rfl (by decide +kernel) ⟨Nat.le_of_ble_eq_true rfl, Nat.le_of_ble_eq_true rfl⟩) hK hP hS hA [0, 1, 2, 3, 4, 5, 6, 7, 8, 9, 10, 11, 12] rfl rfl rfl rfl hl.1 rfl (Nat.le_of_ble_eq_true rfl) dX1_liftCall_19 ⟨Nat.zero_le _, Nat.zero_le _⟩ (fun H locs hP hS => ?_)
    refine lv_iload_n hx hb dX1_liftCall_22 rfl (lv_at hl 0 rfl) ?_
    refine cNi (As := [.int (fX1_boardOf n x1), .int (rget (n.2 2) 48 x1)]) (rest := [.ref (q 5)]) S (c_X5_link l D cI cN _ (fX1_boardOf n x1) (rget (n.2 2) 48 x1) (fX5_link (fX1_boardOf n x1) (rget (n.2 2) 48 x1)) rfl) ⟨va_cnB 2 hts gX1_liftCall_X5_link_n81 rfl rfl rfl hK.2.1 (hts (.initialized RX5) (List.mem_of_getElem? (i := 18) rfl)) (by decide +kernel) ⟨Nat.le_of_ble_eq_true rfl, Nat.le_of_ble_eq_true rfl⟩, (hts (.static yX5_link) (List.mem_of_getElem? (i := 17) rfl)), trivial⟩ hK hP hS hA [] rfl rfl hl.1 rfl (Nat.le_of_ble_eq_true rfl) dX1_liftCall_23 ⟨Nat.zero_le _, Nat.zero_le _⟩ (fun H locs hP hS => ?_)
    refine lv_bipush (v := (-6 : Int32)) hx hb dX1_liftCall_26 kc_bipush_m6 ?_
    refine cWv (As := [.int (fX5_link (fX1_boardOf n x1) (rget (n.2 2) 48 x1)), .int (-6 : Int32)]) (rest := []) (wr := pickW (nwW cI q n) [0, 1, 2, 3, 4, 6, 7, 8, 9, 10, 12]) (wf := (nwW cI q (setR n 4 (rset (n.2 4) 64 (fX5_link (fX1_boardOf n x1) (rget (n.2 2) 48 x1)) (-6 : Int32))))) (q0 := 5) (ci := 4) S (c_X4_set l D cI cN (q 5) (q 11) 64 (Nat.le_of_ble_eq_true rfl) _ (n.2 4) (fX5_link (fX1_boardOf n x1) (rget (n.2 2) 48 x1)) (-6 : Int32)) (cwV 2 hts gX1_liftCall_X4_set rfl rfl rfl (by decide +kernel) ⟨Nat.le_of_ble_eq_true rfl, Nat.le_of_ble_eq_true rfl⟩) hK hP hD hS hA [5, 11] [0, 1, 2, 3, 4, 6, 7, 8, 9, 10, 12] [0, 1, 2, 3, 4, 11, 5, 6, 7, 8, 9, 12, 10] rfl rfl rfl rfl (by decide) rfl rfl rfl rfl rfl hl.1 rfl (Nat.le_of_ble_eq_true rfl) dX1_liftCall_28 ⟨Nat.zero_le _, Nat.zero_le _⟩ (fun H locs hP hD hS => ?_)
    refine lv_aload_n hx hb dX1_liftCall_31 rfl (lv_at hl 1 rfl) ?_
    refine va_get (D := D) (ci := 1) (v := .ref (q 6)) (C := RX1) (T := TX1) (N := 16) hx hb hts inX1 hown hK.1 hP 0 rfl rfl 15 (by decide) (hts (.fieldLink RX1 45 "ClosExchange$Network" "lastLinks" "LClosExchange$Row;") (List.mem_of_getElem? (i := 3) rfl)) (fun _ h9 => h9) rfl dX1_liftCall_32 ?_
    refine lv_aload_n hx hb dX1_liftCall_35 rfl (lv_at hl 1 rfl) ?_
    refine lv_aload_n hx hb dX1_liftCall_36 rfl (lv_at hl 1 rfl) ?_
    refine va_get (D := D) (ci := 1) (v := .ref (q 2)) (C := RX1) (T := TX1) (N := 16) hx hb hts inX1 hown hK.1 hP 0 rfl rfl 11 (by decide) (hts (.fieldLink RX1 33 "ClosExchange$Network" "outlets" "LClosExchange$Row;") (List.mem_of_getElem? (i := 4) rfl)) (fun _ h9 => h9) rfl dX1_liftCall_37 ?_
    refine lv_iload_n hx hb dX1_liftCall_40 rfl (lv_at hl 2 rfl) ?_
    refine cPi (As := [.int x1]) (rest := [.ref (q 0), .ref (q 6)]) (q0 := 2) (ci := 4) S (c_X4_get l D cI cN (q 2) (q 8) 48 (Nat.le_of_ble_eq_true rfl) _ (n.2 1) x1) (cwV 1 hts gX1_liftCall_X4_get rfl rfl rfl (by decide +kernel) ⟨Nat.le_of_ble_eq_true rfl, Nat.le_of_ble_eq_true rfl⟩) hK hP hS hA [2, 8] rfl rfl rfl rfl hl.1 rfl (Nat.le_of_ble_eq_true rfl) dX1_liftCall_41 ⟨Nat.zero_le _, Nat.zero_le _⟩ (fun H locs hP hS => ?_)
    refine cPi (As := [.int (rget (n.2 1) 48 x1)]) (rest := [.ref (q 6)]) (q0 := 0) (ci := 1) S (c_X1_boardOf l D cI cN q _ (setR n 4 (rset (n.2 4) 64 (fX5_link (fX1_boardOf n x1) (rget (n.2 2) 48 x1)) (-6 : Int32))) (rget (n.2 1) 48 x1) (fX1_boardOf (setR n 4 (rset (n.2 4) 64 (fX5_link (fX1_boardOf n x1) (rget (n.2 2) 48 x1)) (-6 : Int32))) (rget (n.2 1) 48 x1)) rfl) (cwV 1 hts gX1_liftCall_X1_boardOf rfl rfl rfl (by decide +kernel) ⟨Nat.le_of_ble_eq_true rfl, Nat.le_of_ble_eq_true rfl⟩) hK hP hS hA [0, 1, 2, 3, 4, 5, 6, 7, 8, 9, 10, 11, 12] rfl rfl rfl rfl hl.1 rfl (Nat.le_of_ble_eq_true rfl) dX1_liftCall_44 ⟨Nat.zero_le _, Nat.zero_le _⟩ (fun H locs hP hS => ?_)
    refine lv_iload_n hx hb dX1_liftCall_47 rfl (lv_at hl 0 rfl) ?_
    refine cNi (As := [.int (fX1_boardOf (setR n 4 (rset (n.2 4) 64 (fX5_link (fX1_boardOf n x1) (rget (n.2 2) 48 x1)) (-6 : Int32))) (rget (n.2 1) 48 x1)), .int (rget (n.2 2) 48 x1)]) (rest := [.ref (q 6)]) S (c_X5_link l D cI cN _ (fX1_boardOf (setR n 4 (rset (n.2 4) 64 (fX5_link (fX1_boardOf n x1) (rget (n.2 2) 48 x1)) (-6 : Int32))) (rget (n.2 1) 48 x1)) (rget (n.2 2) 48 x1) (fX5_link (fX1_boardOf (setR n 4 (rset (n.2 4) 64 (fX5_link (fX1_boardOf n x1) (rget (n.2 2) 48 x1)) (-6 : Int32))) (rget (n.2 1) 48 x1)) (rget (n.2 2) 48 x1)) rfl) ⟨va_cnB 2 hts gX1_liftCall_X5_link_n81 rfl rfl rfl hK.2.1 (hts (.initialized RX5) (List.mem_of_getElem? (i := 18) rfl)) (by decide +kernel) ⟨Nat.le_of_ble_eq_true rfl, Nat.le_of_ble_eq_true rfl⟩, (hts (.static yX5_link) (List.mem_of_getElem? (i := 17) rfl)), trivial⟩ hK hP hS hA [] rfl rfl hl.1 rfl (Nat.le_of_ble_eq_true rfl) dX1_liftCall_48 ⟨Nat.zero_le _, Nat.zero_le _⟩ (fun H locs hP hS => ?_)
    refine lv_bipush (v := (-6 : Int32)) hx hb dX1_liftCall_51 kc_bipush_m6 ?_
    refine cWv (As := [.int (fX5_link (fX1_boardOf (setR n 4 (rset (n.2 4) 64 (fX5_link (fX1_boardOf n x1) (rget (n.2 2) 48 x1)) (-6 : Int32))) (rget (n.2 1) 48 x1)) (rget (n.2 2) 48 x1)), .int (-6 : Int32)]) (rest := []) (wr := pickW (nwW cI q (setR n 4 (rset (n.2 4) 64 (fX5_link (fX1_boardOf n x1) (rget (n.2 2) 48 x1)) (-6 : Int32)))) [0, 1, 2, 3, 4, 5, 7, 8, 9, 10, 11]) (wf := (nwW cI q (setR (setR n 4 (rset (n.2 4) 64 (fX5_link (fX1_boardOf n x1) (rget (n.2 2) 48 x1)) (-6 : Int32))) 5 (rset (n.2 5) 64 (fX5_link (fX1_boardOf (setR n 4 (rset (n.2 4) 64 (fX5_link (fX1_boardOf n x1) (rget (n.2 2) 48 x1)) (-6 : Int32))) (rget (n.2 1) 48 x1)) (rget (n.2 2) 48 x1)) (-6 : Int32))))) (q0 := 6) (ci := 4) S (c_X4_set l D cI cN (q 6) (q 12) 64 (Nat.le_of_ble_eq_true rfl) _ (n.2 5) (fX5_link (fX1_boardOf (setR n 4 (rset (n.2 4) 64 (fX5_link (fX1_boardOf n x1) (rget (n.2 2) 48 x1)) (-6 : Int32))) (rget (n.2 1) 48 x1)) (rget (n.2 2) 48 x1)) (-6 : Int32)) (cwV 2 hts gX1_liftCall_X4_set rfl rfl rfl (by decide +kernel) ⟨Nat.le_of_ble_eq_true rfl, Nat.le_of_ble_eq_true rfl⟩) hK hP hD hS hA [6, 12] [0, 1, 2, 3, 4, 5, 7, 8, 9, 10, 11] [0, 1, 2, 3, 4, 5, 11, 6, 7, 8, 9, 10, 12] rfl rfl rfl rfl (by decide) rfl rfl rfl rfl rfl hl.1 rfl (Nat.le_of_ble_eq_true rfl) dX1_liftCall_53 ⟨Nat.zero_le _, Nat.zero_le _⟩ (fun H locs hP hD hS => ?_)
    refine lv_aload_n hx hb dX1_liftCall_56 rfl (lv_at hl 1 rfl) ?_
    refine va_get (D := D) (ci := 1) (v := .ref (q 3)) (C := RX1) (T := TX1) (N := 16) hx hb hts inX1 hown hK.1 hP 0 rfl rfl 12 (by decide) (hts (.fieldLink RX1 36 "ClosExchange$Network" "vias" "LClosExchange$Row;") (List.mem_of_getElem? (i := 1) rfl)) (fun _ h9 => h9) rfl dX1_liftCall_57 ?_
    refine lv_iload_n hx hb dX1_liftCall_60 rfl (lv_at hl 2 rfl) ?_
    refine lv_bipush (v := (-6 : Int32)) hx hb dX1_liftCall_61 kc_bipush_m6 ?_
    refine cWv (As := [.int x1, .int (-6 : Int32)]) (rest := []) (wr := pickW (nwW cI q (setR (setR n 4 (rset (n.2 4) 64 (fX5_link (fX1_boardOf n x1) (rget (n.2 2) 48 x1)) (-6 : Int32))) 5 (rset (n.2 5) 64 (fX5_link (fX1_boardOf (setR n 4 (rset (n.2 4) 64 (fX5_link (fX1_boardOf n x1) (rget (n.2 2) 48 x1)) (-6 : Int32))) (rget (n.2 1) 48 x1)) (rget (n.2 2) 48 x1)) (-6 : Int32)))) [0, 1, 2, 4, 5, 6, 7, 8, 10, 11, 12]) (wf := (nwW cI q (setR (setR (setR n 4 (rset (n.2 4) 64 (fX5_link (fX1_boardOf n x1) (rget (n.2 2) 48 x1)) (-6 : Int32))) 5 (rset (n.2 5) 64 (fX5_link (fX1_boardOf (setR n 4 (rset (n.2 4) 64 (fX5_link (fX1_boardOf n x1) (rget (n.2 2) 48 x1)) (-6 : Int32))) (rget (n.2 1) 48 x1)) (rget (n.2 2) 48 x1)) (-6 : Int32))) 2 (rset (n.2 2) 48 x1 (-6 : Int32))))) (q0 := 3) (ci := 4) S (c_X4_set l D cI cN (q 3) (q 9) 48 (Nat.le_of_ble_eq_true rfl) _ (n.2 2) x1 (-6 : Int32)) (cwV 2 hts gX1_liftCall_X4_set rfl rfl rfl (by decide +kernel) ⟨Nat.le_of_ble_eq_true rfl, Nat.le_of_ble_eq_true rfl⟩) hK hP hD hS hA [3, 9] [0, 1, 2, 4, 5, 6, 7, 8, 10, 11, 12] [0, 1, 2, 11, 3, 4, 5, 6, 7, 12, 8, 9, 10] rfl rfl rfl rfl (by decide) rfl rfl rfl rfl rfl hl.1 rfl (Nat.le_of_ble_eq_true rfl) dX1_liftCall_63 ⟨Nat.zero_le _, Nat.zero_le _⟩ (fun H locs hP hD hS => ?_)
    subst hf
    exact hret H locs ls _ dX1_liftCall_66 hP hD hS
set_option maxRecDepth 100000 in
theorem c_X1_liftCall (l : Launch) (D : va_G) (cI cN : ClassId) (q : Nat → Nat) (sz : Nat) (n : OS) (x1 : Int32) (n' : OS) (hf : fX1_liftCall n x1 = n') : CtV l D cI cN yX1_liftCall wsX1_liftCall rm_X1_liftCall 0 0 [.ref (q 0), .int x1] (nwW cI q n) sz (nwW cI q n') := by
  refine mV (cc := cX1_liftCall) (maxL := 3) (by decide) rfl (Nat.le_of_ble_eq_true rfl) ?_
  intro p e s m args below meth c Q A S _ hK hP hD hS hA hret ls hl
  exact w_X1_liftCall_0 S hK hA hret hf _ _ _ hP hD hS (lv_sub (show lv_has ls 3 [(0, .ref (q 0)), (1, .int x1)] from hl) [0, 1] rfl)
abbrev rm_X1_removeCall : Room := { frames := 2, cells := 0, slots := 0, locals := 44 }
theorem in_X1_removeCall_X1 : ∀ w ∈ u_ws RX1 TX1 16, w ∈ wsX1_removeCall := fun w h => List.mem_cons_of_mem _ (List.mem_append_left _ (List.mem_append_right _ h))
set_option maxRecDepth 100000 in
set_option maxHeartbeats 4000000 in
theorem w_X1_removeCall_0 {p : Program} {l : Launch} {e : Env} {s : State} {m : MethodId} {args : Array Value} {below : List Frame} {meth : Method} {c : Code} {Q : State → Prop} {D : va_G} {cI cN : ClassId} {A : Nat → Prop} {q : Nat → Nat} (S : CallFix p m c cX1_removeCall 2 s args wsX1_removeCall RX1) (hK : KN D cI cN s) (hA : ∀ q : Nat, s.heap.size ≤ q → A q) {n : OS} {x1 : Int32} {n' : OS} (hret : ∀ (H : Heap) (locs : List Loc) (ls : Array Slot) (pc : Nat), decode cX1_removeCall pc = .ok (.return_, 1) → va_P D vwCl (nwW cI q n') H → va_D A (nwW cI q n') → va_S A s.heap H locs → W p l e (headSpec wsX1_removeCall rm_X1_removeCall).room s m args below meth c H locs 0 0 Q (F0 m pc ls [])) (hf : fX1_removeCall n x1 = n') (H : Heap) (locs : List Loc) (ls : Array Slot) (hP : va_P D vwCl (nwW cI q n) H) (hD : va_D A (nwW cI q n)) (hS : va_S A s.heap H locs) (hl : lv_has ls 2 [(0, .ref (q 0)), (1, .int x1)]) : W p l e (headSpec wsX1_removeCall rm_X1_removeCall).room s m args below meth c H locs 0 0 Q (F0 m 0 ls []) := by
  obtain ⟨hx, hb, hml, hown, hts⟩ := id S
  have inX1 := in_X1_removeCall_X1
  unfold fX1_removeCall at hf
  refine lv_aload_n hx hb dX1_removeCall_0 rfl (lv_at hl 0 rfl) ?_
  refine lv_iload_n hx hb dX1_removeCall_1 rfl (lv_at hl 1 rfl) ?_
  refine cWv (As := [.int x1]) (rest := []) (wr := pickW (nwW cI q n) []) (wf := (nwW cI q (fX1_liftCall n x1))) (q0 := 0) (ci := 1) S (c_X1_liftCall l D cI cN q _ n x1 (fX1_liftCall n x1) rfl) (cwV 1 hts gX1_removeCall_X1_liftCall rfl rfl rfl (by decide +kernel) ⟨Nat.le_of_ble_eq_true rfl, Nat.le_of_ble_eq_true rfl⟩) hK hP hD hS hA [0, 1, 2, 3, 4, 5, 6, 7, 8, 9, 10, 11, 12] [] [0, 1, 2, 3, 4, 5, 6, 7, 8, 9, 10, 11, 12] rfl rfl rfl rfl (by decide) rfl rfl rfl rfl rfl hl.1 rfl (Nat.le_of_ble_eq_true rfl) dX1_removeCall_2 ⟨Nat.zero_le _, Nat.zero_le _⟩ (fun H locs hP hD hS => ?_)
  refine lv_aload_n hx hb dX1_removeCall_5 rfl (lv_at hl 0 rfl) ?_
  refine va_get (D := D) (ci := 1) (v := .ref (q 4)) (C := RX1) (T := TX1) (N := 16) hx hb hts inX1 hown hK.1 hP 0 rfl rfl 13 (by decide) (hts (.fieldLink RX1 39 "ClosExchange$Network" "inlets" "LClosExchange$Row;") (List.mem_of_getElem? (i := 1) rfl)) (fun _ h9 => h9) rfl dX1_removeCall_6 ?_
  refine lv_aload_n hx hb dX1_removeCall_9 rfl (lv_at hl 0 rfl) ?_
  refine va_get (D := D) (ci := 1) (v := .ref (q 2)) (C := RX1) (T := TX1) (N := 16) hx hb hts inX1 hown hK.1 hP 0 rfl rfl 11 (by decide) (hts (.fieldLink RX1 33 "ClosExchange$Network" "outlets" "LClosExchange$Row;") (List.mem_of_getElem? (i := 2) rfl)) (fun _ h9 => h9) rfl dX1_removeCall_10 ?_
  refine lv_iload_n hx hb dX1_removeCall_13 rfl (lv_at hl 1 rfl) ?_
  refine cPi (As := [.int x1]) (rest := [.ref (q 4)]) (q0 := 2) (ci := 4) S (c_X4_get l D cI cN (q 2) (q 8) 48 (Nat.le_of_ble_eq_true rfl) _ ((fX1_liftCall n x1).2 1) x1) (cwV 1 hts gX1_removeCall_X4_get rfl rfl rfl (by decide +kernel) ⟨Nat.le_of_ble_eq_true rfl, Nat.le_of_ble_eq_true rfl⟩) hK hP hS hA [2, 8] rfl rfl rfl rfl hl.1 rfl (Nat.le_of_ble_eq_true rfl) dX1_removeCall_14 ⟨Nat.zero_le _, Nat.zero_le _⟩ (fun H locs hP hS => ?_)
  refine lv_bipush (v := (-6 : Int32)) hx hb dX1_removeCall_17 kc_bipush_m6 ?_
  refine cWv (As := [.int (rget ((fX1_liftCall n x1).2 1) 48 x1), .int (-6 : Int32)]) (rest := []) (wr := pickW (nwW cI q (fX1_liftCall n x1)) [0, 1, 2, 3, 5, 6, 7, 8, 9, 11, 12]) (wf := (nwW cI q (setR (fX1_liftCall n x1) 3 (rset ((fX1_liftCall n x1).2 3) 48 (rget ((fX1_liftCall n x1).2 1) 48 x1) (-6 : Int32))))) (q0 := 4) (ci := 4) S (c_X4_set l D cI cN (q 4) (q 10) 48 (Nat.le_of_ble_eq_true rfl) _ ((fX1_liftCall n x1).2 3) (rget ((fX1_liftCall n x1).2 1) 48 x1) (-6 : Int32)) (cwV 2 hts gX1_removeCall_X4_set rfl rfl rfl (by decide +kernel) ⟨Nat.le_of_ble_eq_true rfl, Nat.le_of_ble_eq_true rfl⟩) hK hP hD hS hA [4, 10] [0, 1, 2, 3, 5, 6, 7, 8, 9, 11, 12] [0, 1, 2, 3, 11, 4, 5, 6, 7, 8, 12, 9, 10] rfl rfl rfl rfl (by decide) rfl rfl rfl rfl rfl hl.1 rfl (Nat.le_of_ble_eq_true rfl) dX1_removeCall_19 ⟨Nat.zero_le _, Nat.zero_le _⟩ (fun H locs hP hD hS => ?_)
  refine lv_aload_n hx hb dX1_removeCall_22 rfl (lv_at hl 0 rfl) ?_
  refine va_get (D := D) (ci := 1) (v := .ref (q 2)) (C := RX1) (T := TX1) (N := 16) hx hb hts inX1 hown hK.1 hP 0 rfl rfl 11 (by decide) (hts (.fieldLink RX1 33 "ClosExchange$Network" "outlets" "LClosExchange$Row;") (List.mem_of_getElem? (i := 2) rfl)) (fun _ h9 => h9) rfl dX1_removeCall_23 ?_
  refine lv_iload_n hx hb dX1_removeCall_26 rfl (lv_at hl 1 rfl) ?_
  refine lv_bipush (v := (-6 : Int32)) hx hb dX1_removeCall_27 kc_bipush_m6 ?_
  refine cWv (As := [.int x1, .int (-6 : Int32)]) (rest := []) (wr := pickW (nwW cI q (setR (fX1_liftCall n x1) 3 (rset ((fX1_liftCall n x1).2 3) 48 (rget ((fX1_liftCall n x1).2 1) 48 x1) (-6 : Int32)))) [0, 1, 3, 4, 5, 6, 7, 9, 10, 11, 12]) (wf := (nwW cI q (setR (setR (fX1_liftCall n x1) 3 (rset ((fX1_liftCall n x1).2 3) 48 (rget ((fX1_liftCall n x1).2 1) 48 x1) (-6 : Int32))) 1 (rset ((fX1_liftCall n x1).2 1) 48 x1 (-6 : Int32))))) (q0 := 2) (ci := 4) S (c_X4_set l D cI cN (q 2) (q 8) 48 (Nat.le_of_ble_eq_true rfl) _ ((fX1_liftCall n x1).2 1) x1 (-6 : Int32)) (cwV 2 hts gX1_removeCall_X4_set rfl rfl rfl (by decide +kernel) ⟨Nat.le_of_ble_eq_true rfl, Nat.le_of_ble_eq_true rfl⟩) hK hP hD hS hA [2, 8] [0, 1, 3, 4, 5, 6, 7, 9, 10, 11, 12] [0, 1, 11, 2, 3, 4, 5, 6, 12, 7, 8, 9, 10] rfl rfl rfl rfl (by decide) rfl rfl rfl rfl rfl hl.1 rfl (Nat.le_of_ble_eq_true rfl) dX1_removeCall_29 ⟨Nat.zero_le _, Nat.zero_le _⟩ (fun H locs hP hD hS => ?_)
  refine lv_aload_n hx hb dX1_removeCall_32 rfl (lv_at hl 0 rfl) ?_
  refine va_get (D := D) (ci := 1) (v := .ref (q 1)) (C := RX1) (T := TX1) (N := 16) hx hb hts inX1 hown hK.1 hP 0 rfl rfl 10 (by decide) (hts (.fieldLink RX1 29 "ClosExchange$Network" "numbers" "LClosExchange$Row;") (List.mem_of_getElem? (i := 3) rfl)) (fun _ h9 => h9) rfl dX1_removeCall_33 ?_
  refine lv_iload_n hx hb dX1_removeCall_36 rfl (lv_at hl 1 rfl) ?_
  refine lv_bipush (v := (-6 : Int32)) hx hb dX1_removeCall_37 kc_bipush_m6 ?_
  refine cWv (As := [.int x1, .int (-6 : Int32)]) (rest := []) (wr := pickW (nwW cI q (setR (setR (fX1_liftCall n x1) 3 (rset ((fX1_liftCall n x1).2 3) 48 (rget ((fX1_liftCall n x1).2 1) 48 x1) (-6 : Int32))) 1 (rset ((fX1_liftCall n x1).2 1) 48 x1 (-6 : Int32)))) [0, 2, 3, 4, 5, 6, 8, 9, 10, 11, 12]) (wf := (nwW cI q (setR (setR (setR (fX1_liftCall n x1) 3 (rset ((fX1_liftCall n x1).2 3) 48 (rget ((fX1_liftCall n x1).2 1) 48 x1) (-6 : Int32))) 1 (rset ((fX1_liftCall n x1).2 1) 48 x1 (-6 : Int32))) 0 (rset ((fX1_liftCall n x1).2 0) 48 x1 (-6 : Int32))))) (q0 := 1) (ci := 4) S (c_X4_set l D cI cN (q 1) (q 7) 48 (Nat.le_of_ble_eq_true rfl) _ ((fX1_liftCall n x1).2 0) x1 (-6 : Int32)) (cwV 2 hts gX1_removeCall_X4_set rfl rfl rfl (by decide +kernel) ⟨Nat.le_of_ble_eq_true rfl, Nat.le_of_ble_eq_true rfl⟩) hK hP hD hS hA [1, 7] [0, 2, 3, 4, 5, 6, 8, 9, 10, 11, 12] [0, 11, 1, 2, 3, 4, 5, 12, 6, 7, 8, 9, 10] rfl rfl rfl rfl (by decide) rfl rfl rfl rfl rfl hl.1 rfl (Nat.le_of_ble_eq_true rfl) dX1_removeCall_39 ⟨Nat.zero_le _, Nat.zero_le _⟩ (fun H locs hP hD hS => ?_)
  subst hf
  exact hret H locs ls _ dX1_removeCall_42 hP hD hS
set_option maxRecDepth 100000 in
theorem c_X1_removeCall (l : Launch) (D : va_G) (cI cN : ClassId) (q : Nat → Nat) (sz : Nat) (n : OS) (x1 : Int32) (n' : OS) (hf : fX1_removeCall n x1 = n') : CtV l D cI cN yX1_removeCall wsX1_removeCall rm_X1_removeCall 0 0 [.ref (q 0), .int x1] (nwW cI q n) sz (nwW cI q n') := by
  refine mV (cc := cX1_removeCall) (maxL := 2) (by decide) rfl (Nat.le_of_ble_eq_true rfl) ?_
  intro p e s m args below meth c Q A S _ hK hP hD hS hA hret ls hl
  exact w_X1_removeCall_0 S hK hA hret hf _ _ _ hP hD hS (lv_sub (show lv_has ls 2 [(0, .ref (q 0)), (1, .int x1)] from hl) [0, 1] rfl)
abbrev rm_X1_carryCall : Room := { frames := 1, cells := 0, slots := 0, locals := 22 }
theorem in_X1_carryCall_X1 : ∀ w ∈ u_ws RX1 TX1 16, w ∈ wsX1_carryCall := fun w h => List.mem_cons_of_mem _ (List.mem_append_left _ (List.mem_append_right _ h))
set_option maxRecDepth 100000 in
set_option maxHeartbeats 4000000 in
theorem w_X1_carryCall_0 {p : Program} {l : Launch} {e : Env} {s : State} {m : MethodId} {args : Array Value} {below : List Frame} {meth : Method} {c : Code} {Q : State → Prop} {D : va_G} {cI cN : ClassId} {A : Nat → Prop} {q : Nat → Nat} (S : CallFix p m c cX1_carryCall 3 s args wsX1_carryCall RX1) (hK : KN D cI cN s) (hA : ∀ q : Nat, s.heap.size ≤ q → A q) {n : OS} {x1 : Int32} {x2 : Int32} {n' : OS} (hret : ∀ (H : Heap) (locs : List Loc) (ls : Array Slot) (pc : Nat), decode cX1_carryCall pc = .ok (.return_, 1) → va_P D vwCl (nwW cI q n') H → va_D A (nwW cI q n') → va_S A s.heap H locs → W p l e (headSpec wsX1_carryCall rm_X1_carryCall).room s m args below meth c H locs 0 0 Q (F0 m pc ls [])) (hf : fX1_carryCall n x1 x2 = n') (H : Heap) (locs : List Loc) (ls : Array Slot) (hP : va_P D vwCl (nwW cI q n) H) (hD : va_D A (nwW cI q n)) (hS : va_S A s.heap H locs) (hl : lv_has ls 3 [(0, .ref (q 0)), (1, .int x1), (2, .int x2)]) : W p l e (headSpec wsX1_carryCall rm_X1_carryCall).room s m args below meth c H locs 0 0 Q (F0 m 0 ls []) := by
  obtain ⟨hx, hb, hml, hown, hts⟩ := id S
  have inX1 := in_X1_carryCall_X1
  unfold fX1_carryCall at hf
  refine lv_aload_n hx hb dX1_carryCall_0 rfl (lv_at hl 0 rfl) ?_
  refine va_get (D := D) (ci := 1) (v := .ref (q 3)) (C := RX1) (T := TX1) (N := 16) hx hb hts inX1 hown hK.1 hP 0 rfl rfl 12 (by decide) (hts (.fieldLink RX1 36 "ClosExchange$Network" "vias" "LClosExchange$Row;") (List.mem_of_getElem? (i := 1) rfl)) (fun _ h9 => h9) rfl dX1_carryCall_1 ?_
  refine lv_iload_n hx hb dX1_carryCall_4 rfl (lv_at hl 1 rfl) ?_
  refine lv_iload_n hx hb dX1_carryCall_5 rfl (lv_at hl 2 rfl) ?_
  refine cWv (As := [.int x1, .int x2]) (rest := []) (wr := pickW (nwW cI q n) [0, 1, 2, 4, 5, 6, 7, 8, 10, 11, 12]) (wf := (nwW cI q (setR n 2 (rset (n.2 2) 48 x1 x2)))) (q0 := 3) (ci := 4) S (c_X4_set l D cI cN (q 3) (q 9) 48 (Nat.le_of_ble_eq_true rfl) _ (n.2 2) x1 x2) (cwV 2 hts gX1_carryCall_X4_set rfl rfl rfl (by decide +kernel) ⟨Nat.le_of_ble_eq_true rfl, Nat.le_of_ble_eq_true rfl⟩) hK hP hD hS hA [3, 9] [0, 1, 2, 4, 5, 6, 7, 8, 10, 11, 12] [0, 1, 2, 11, 3, 4, 5, 6, 7, 12, 8, 9, 10] rfl rfl rfl rfl (by decide) rfl rfl rfl rfl rfl hl.1 rfl (Nat.le_of_ble_eq_true rfl) dX1_carryCall_6 ⟨Nat.zero_le _, Nat.zero_le _⟩ (fun H locs hP hD hS => ?_)
  refine lv_aload_n hx hb dX1_carryCall_9 rfl (lv_at hl 0 rfl) ?_
  refine va_get (D := D) (ci := 1) (v := .ref (q 5)) (C := RX1) (T := TX1) (N := 16) hx hb hts inX1 hown hK.1 hP 0 rfl rfl 14 (by decide) (hts (.fieldLink RX1 42 "ClosExchange$Network" "firstLinks" "LClosExchange$Row;") (List.mem_of_getElem? (i := 2) rfl)) (fun _ h9 => h9) rfl dX1_carryCall_10 ?_
  refine lv_aload_n hx hb dX1_carryCall_13 rfl (lv_at hl 0 rfl) ?_
  refine lv_iload_n hx hb dX1_carryCall_14 rfl (lv_at hl 1 rfl) ?_
  refine cPi (As := [.int x1]) (rest := [.ref (q 5)]) (q0 := 0) (ci := 1) S (c_X1_boardOf l D cI cN q _ (setR n 2 (rset (n.2 2) 48 x1 x2)) x1 (fX1_boardOf (setR n 2 (rset (n.2 2) 48 x1 x2)) x1) rfl) (cwV 1 hts gX1_carryCall_X1_boardOf rfl rfl rfl (by decide +kernel) ⟨Nat.le_of_ble_eq_true rfl, Nat.le_of_ble_eq_true rfl⟩) hK hP hS hA [0, 1, 2, 3, 4, 5, 6, 7, 8, 9, 10, 11, 12] rfl rfl rfl rfl hl.1 rfl (Nat.le_of_ble_eq_true rfl) dX1_carryCall_15 ⟨Nat.zero_le _, Nat.zero_le _⟩ (fun H locs hP hS => ?_)
  refine lv_iload_n hx hb dX1_carryCall_18 rfl (lv_at hl 2 rfl) ?_
  refine cNi (As := [.int (fX1_boardOf (setR n 2 (rset (n.2 2) 48 x1 x2)) x1), .int x2]) (rest := [.ref (q 5)]) S (c_X5_link l D cI cN _ (fX1_boardOf (setR n 2 (rset (n.2 2) 48 x1 x2)) x1) x2 (fX5_link (fX1_boardOf (setR n 2 (rset (n.2 2) 48 x1 x2)) x1) x2) rfl) ⟨va_cnB 2 hts gX1_carryCall_X5_link_n81 rfl rfl rfl hK.2.1 (hts (.initialized RX5) (List.mem_of_getElem? (i := 18) rfl)) (by decide +kernel) ⟨Nat.le_of_ble_eq_true rfl, Nat.le_of_ble_eq_true rfl⟩, (hts (.static yX5_link) (List.mem_of_getElem? (i := 17) rfl)), trivial⟩ hK hP hS hA [] rfl rfl hl.1 rfl (Nat.le_of_ble_eq_true rfl) dX1_carryCall_19 ⟨Nat.zero_le _, Nat.zero_le _⟩ (fun H locs hP hS => ?_)
  refine lv_iload_n hx hb dX1_carryCall_22 rfl (lv_at hl 1 rfl) ?_
  refine cWv (As := [.int (fX5_link (fX1_boardOf (setR n 2 (rset (n.2 2) 48 x1 x2)) x1) x2), .int x1]) (rest := []) (wr := pickW (nwW cI q (setR n 2 (rset (n.2 2) 48 x1 x2))) [0, 1, 2, 3, 4, 6, 7, 8, 9, 10, 12]) (wf := (nwW cI q (setR (setR n 2 (rset (n.2 2) 48 x1 x2)) 4 (rset (n.2 4) 64 (fX5_link (fX1_boardOf (setR n 2 (rset (n.2 2) 48 x1 x2)) x1) x2) x1)))) (q0 := 5) (ci := 4) S (c_X4_set l D cI cN (q 5) (q 11) 64 (Nat.le_of_ble_eq_true rfl) _ (n.2 4) (fX5_link (fX1_boardOf (setR n 2 (rset (n.2 2) 48 x1 x2)) x1) x2) x1) (cwV 2 hts gX1_carryCall_X4_set rfl rfl rfl (by decide +kernel) ⟨Nat.le_of_ble_eq_true rfl, Nat.le_of_ble_eq_true rfl⟩) hK hP hD hS hA [5, 11] [0, 1, 2, 3, 4, 6, 7, 8, 9, 10, 12] [0, 1, 2, 3, 4, 11, 5, 6, 7, 8, 9, 12, 10] rfl rfl rfl rfl (by decide) rfl rfl rfl rfl rfl hl.1 rfl (Nat.le_of_ble_eq_true rfl) dX1_carryCall_23 ⟨Nat.zero_le _, Nat.zero_le _⟩ (fun H locs hP hD hS => ?_)
  refine lv_aload_n hx hb dX1_carryCall_26 rfl (lv_at hl 0 rfl) ?_
  refine va_get (D := D) (ci := 1) (v := .ref (q 6)) (C := RX1) (T := TX1) (N := 16) hx hb hts inX1 hown hK.1 hP 0 rfl rfl 15 (by decide) (hts (.fieldLink RX1 45 "ClosExchange$Network" "lastLinks" "LClosExchange$Row;") (List.mem_of_getElem? (i := 3) rfl)) (fun _ h9 => h9) rfl dX1_carryCall_27 ?_
  refine lv_aload_n hx hb dX1_carryCall_30 rfl (lv_at hl 0 rfl) ?_
  refine lv_aload_n hx hb dX1_carryCall_31 rfl (lv_at hl 0 rfl) ?_
  refine va_get (D := D) (ci := 1) (v := .ref (q 2)) (C := RX1) (T := TX1) (N := 16) hx hb hts inX1 hown hK.1 hP 0 rfl rfl 11 (by decide) (hts (.fieldLink RX1 33 "ClosExchange$Network" "outlets" "LClosExchange$Row;") (List.mem_of_getElem? (i := 4) rfl)) (fun _ h9 => h9) rfl dX1_carryCall_32 ?_
  refine lv_iload_n hx hb dX1_carryCall_35 rfl (lv_at hl 1 rfl) ?_
  refine cPi (As := [.int x1]) (rest := [.ref (q 0), .ref (q 6)]) (q0 := 2) (ci := 4) S (c_X4_get l D cI cN (q 2) (q 8) 48 (Nat.le_of_ble_eq_true rfl) _ (n.2 1) x1) (cwV 1 hts gX1_carryCall_X4_get rfl rfl rfl (by decide +kernel) ⟨Nat.le_of_ble_eq_true rfl, Nat.le_of_ble_eq_true rfl⟩) hK hP hS hA [2, 8] rfl rfl rfl rfl hl.1 rfl (Nat.le_of_ble_eq_true rfl) dX1_carryCall_36 ⟨Nat.zero_le _, Nat.zero_le _⟩ (fun H locs hP hS => ?_)
  refine cPi (As := [.int (rget (n.2 1) 48 x1)]) (rest := [.ref (q 6)]) (q0 := 0) (ci := 1) S (c_X1_boardOf l D cI cN q _ (setR (setR n 2 (rset (n.2 2) 48 x1 x2)) 4 (rset (n.2 4) 64 (fX5_link (fX1_boardOf (setR n 2 (rset (n.2 2) 48 x1 x2)) x1) x2) x1)) (rget (n.2 1) 48 x1) (fX1_boardOf (setR (setR n 2 (rset (n.2 2) 48 x1 x2)) 4 (rset (n.2 4) 64 (fX5_link (fX1_boardOf (setR n 2 (rset (n.2 2) 48 x1 x2)) x1) x2) x1)) (rget (n.2 1) 48 x1)) rfl) (cwV 1 hts gX1_carryCall_X1_boardOf rfl rfl rfl (by decide +kernel) ⟨Nat.le_of_ble_eq_true rfl, Nat.le_of_ble_eq_true rfl⟩) hK hP hS hA [0, 1, 2, 3, 4, 5, 6, 7, 8, 9, 10, 11, 12] rfl rfl rfl rfl hl.1 rfl (Nat.le_of_ble_eq_true rfl) dX1_carryCall_39 ⟨Nat.zero_le _, Nat.zero_le _⟩ (fun H locs hP hS => ?_)
  refine lv_iload_n hx hb dX1_carryCall_42 rfl (lv_at hl 2 rfl) ?_
  refine cNi (As := [.int (fX1_boardOf (setR (setR n 2 (rset (n.2 2) 48 x1 x2)) 4 (rset (n.2 4) 64 (fX5_link (fX1_boardOf (setR n 2 (rset (n.2 2) 48 x1 x2)) x1) x2) x1)) (rget (n.2 1) 48 x1)), .int x2]) (rest := [.ref (q 6)]) S (c_X5_link l D cI cN _ (fX1_boardOf (setR (setR n 2 (rset (n.2 2) 48 x1 x2)) 4 (rset (n.2 4) 64 (fX5_link (fX1_boardOf (setR n 2 (rset (n.2 2) 48 x1 x2)) x1) x2) x1)) (rget (n.2 1) 48 x1)) x2 (fX5_link (fX1_boardOf (setR (setR n 2 (rset (n.2 2) 48 x1 x2)) 4 (rset (n.2 4) 64 (fX5_link (fX1_boardOf (setR n 2 (rset (n.2 2) 48 x1 x2)) x1) x2) x1)) (rget (n.2 1) 48 x1)) x2) rfl) ⟨va_cnB 2 hts gX1_carryCall_X5_link_n81 rfl rfl rfl hK.2.1 (hts (.initialized RX5) (List.mem_of_getElem? (i := 18) rfl)) (by decide +kernel) ⟨Nat.le_of_ble_eq_true rfl, Nat.le_of_ble_eq_true rfl⟩, (hts (.static yX5_link) (List.mem_of_getElem? (i := 17) rfl)), trivial⟩ hK hP hS hA [] rfl rfl hl.1 rfl (Nat.le_of_ble_eq_true rfl) dX1_carryCall_43 ⟨Nat.zero_le _, Nat.zero_le _⟩ (fun H locs hP hS => ?_)
  refine lv_iload_n hx hb dX1_carryCall_46 rfl (lv_at hl 1 rfl) ?_
  refine cWv (As := [.int (fX5_link (fX1_boardOf (setR (setR n 2 (rset (n.2 2) 48 x1 x2)) 4 (rset (n.2 4) 64 (fX5_link (fX1_boardOf (setR n 2 (rset (n.2 2) 48 x1 x2)) x1) x2) x1)) (rget (n.2 1) 48 x1)) x2), .int x1]) (rest := []) (wr := pickW (nwW cI q (setR (setR n 2 (rset (n.2 2) 48 x1 x2)) 4 (rset (n.2 4) 64 (fX5_link (fX1_boardOf (setR n 2 (rset (n.2 2) 48 x1 x2)) x1) x2) x1))) [0, 1, 2, 3, 4, 5, 7, 8, 9, 10, 11]) (wf := (nwW cI q (setR (setR (setR n 2 (rset (n.2 2) 48 x1 x2)) 4 (rset (n.2 4) 64 (fX5_link (fX1_boardOf (setR n 2 (rset (n.2 2) 48 x1 x2)) x1) x2) x1)) 5 (rset (n.2 5) 64 (fX5_link (fX1_boardOf (setR (setR n 2 (rset (n.2 2) 48 x1 x2)) 4 (rset (n.2 4) 64 (fX5_link (fX1_boardOf (setR n 2 (rset (n.2 2) 48 x1 x2)) x1) x2) x1)) (rget (n.2 1) 48 x1)) x2) x1)))) (q0 := 6) (ci := 4) S (c_X4_set l D cI cN (q 6) (q 12) 64 (Nat.le_of_ble_eq_true rfl) _ (n.2 5) (fX5_link (fX1_boardOf (setR (setR n 2 (rset (n.2 2) 48 x1 x2)) 4 (rset (n.2 4) 64 (fX5_link (fX1_boardOf (setR n 2 (rset (n.2 2) 48 x1 x2)) x1) x2) x1)) (rget (n.2 1) 48 x1)) x2) x1) (cwV 2 hts gX1_carryCall_X4_set rfl rfl rfl (by decide +kernel) ⟨Nat.le_of_ble_eq_true rfl, Nat.le_of_ble_eq_true rfl⟩) hK hP hD hS hA [6, 12] [0, 1, 2, 3, 4, 5, 7, 8, 9, 10, 11] [0, 1, 2, 3, 4, 5, 11, 6, 7, 8, 9, 10, 12] rfl rfl rfl rfl (by decide) rfl rfl rfl rfl rfl hl.1 rfl (Nat.le_of_ble_eq_true rfl) dX1_carryCall_47 ⟨Nat.zero_le _, Nat.zero_le _⟩ (fun H locs hP hD hS => ?_)
  subst hf
  exact hret H locs ls _ dX1_carryCall_50 hP hD hS
set_option maxRecDepth 100000 in
theorem c_X1_carryCall (l : Launch) (D : va_G) (cI cN : ClassId) (q : Nat → Nat) (sz : Nat) (n : OS) (x1 : Int32) (x2 : Int32) (n' : OS) (hf : fX1_carryCall n x1 x2 = n') : CtV l D cI cN yX1_carryCall wsX1_carryCall rm_X1_carryCall 0 0 [.ref (q 0), .int x1, .int x2] (nwW cI q n) sz (nwW cI q n') := by
  refine mV (cc := cX1_carryCall) (maxL := 3) (by decide) rfl (Nat.le_of_ble_eq_true rfl) ?_
  intro p e s m args below meth c Q A S _ hK hP hD hS hA hret ls hl
  exact w_X1_carryCall_0 S hK hA hret hf _ _ _ hP hD hS (lv_sub (show lv_has ls 3 [(0, .ref (q 0)), (1, .int x1), (2, .int x2)] from hl) [0, 1, 2] rfl)
abbrev rm_X1_freeOnLinks : Room := { frames := 1, cells := 0, slots := 0, locals := 21 }
theorem in_X1_freeOnLinks_X1 : ∀ w ∈ u_ws RX1 TX1 16, w ∈ wsX1_freeOnLinks := fun w h => List.mem_cons_of_mem _ (List.mem_append_left _ (List.mem_append_right _ h))
set_option maxRecDepth 100000 in
set_option maxHeartbeats 4000000 in
theorem w_X1_freeOnLinks4_5 {p : Program} {l : Launch} {e : Env} {s : State} {m : MethodId} {args : Array Value} {below : List Frame} {meth : Method} {c : Code} {Q : State → Prop} {D : va_G} {cI cN : ClassId} {q : Nat → Nat} (S : CallFix p m c cX1_freeOnLinks 5 s args wsX1_freeOnLinks RX1) (hK : KN D cI cN s) {n : OS} {x2 : Int32} {r0 : Int32} (hret : ∀ (H : Heap) (locs : List Loc) (ls : Array Slot) (pc : Nat), decode cX1_freeOnLinks pc = .ok (.ireturn, 1) → narrow .int (.int r0) = .int r0 → va_S (nwA s.heap.size) s.heap H locs → W p l e (headSpec wsX1_freeOnLinks rm_X1_freeOnLinks).room s m args below meth c H locs 0 0 Q (F0 m pc ls [.int r0])) : ∀ (k : Nat) (x3 : Int32) (x4 : Int32), fX1_freeOnLinks4_5 n x2 k x3 x4 = some r0 → ∀ (H : Heap) (locs : List Loc) (ls : Array Slot), va_P D vwCl (nwW cI q n) H → va_S (nwA s.heap.size) s.heap H locs → lv_has ls 5 [(0, .ref (q 0)), (1, .ref (q 5)), (2, .int x2), (3, .int x3), (4, .int x4)] → W p l e (headSpec wsX1_freeOnLinks rm_X1_freeOnLinks).room s m args below meth c H locs 0 0 Q (F0 m 5 ls []) := by
  obtain ⟨hx, hb, hml, hown, hts⟩ := id S
  have inX1 := in_X1_freeOnLinks_X1
  have hA : ∀ q : Nat, s.heap.size ≤ q → nwA s.heap.size q := fun _ h => h
  intro k
  induction k with
  | zero => intro x3 x4 hf; rw [fX1_freeOnLinks4_5_z] at hf; cases hf
  | succ k ih =>
    intro x3 x4 hf H locs ls hP hS hl
    rw [fX1_freeOnLinks4_5_s] at hf
    refine lv_iload hx hb dX1_freeOnLinks_5 (lv_at hl 4 rfl) ?_
    refine lv_aload_n hx hb dX1_freeOnLinks_7 rfl (lv_at hl 0 rfl) ?_
    refine va_get (D := D) (ci := 1) (v := .int (n.1 2)) (C := RX1) (T := TX1) (N := 16) hx hb hts inX1 hown hK.1 hP 0 rfl rfl 2 (by decide) (hts (.fieldLink RX1 18 "ClosExchange$Network" "middles" "I") (List.mem_of_getElem? (i := 1) rfl)) (fun _ h9 => h9) rfl dX1_freeOnLinks_8 ?_
    refine lv_icmp_ge (tgt := 40) hx hb dX1_freeOnLinks_11 (by decide) (fun c1 => ?_) (fun c1 => ?_)
    · have hf := it_t hf c1
      refine lv_iload_n hx hb dX1_freeOnLinks_40 rfl (lv_at hl 3 rfl) ?_
      refine lv_aload_n hx hb dX1_freeOnLinks_41 rfl (lv_at hl 0 rfl) ?_
      refine va_get (D := D) (ci := 1) (v := .int (n.1 3)) (C := RX1) (T := TX1) (N := 16) hx hb hts inX1 hown hK.1 hP 0 rfl rfl 3 (by decide) (hts (.fieldLink RX1 21 "ClosExchange$Network" "service" "I") (List.mem_of_getElem? (i := 2) rfl)) (fun _ h9 => h9) rfl dX1_freeOnLinks_42 ?_
      refine lv_iand hx hb dX1_freeOnLinks_45 ?_
      cases hf
      exact hret H locs ls _ dX1_freeOnLinks_46 rfl hS
    · have hf := it_f hf c1
      refine lv_aload_n hx hb dX1_freeOnLinks_14 rfl (lv_at hl 1 rfl) ?_
      refine lv_iload_n hx hb dX1_freeOnLinks_15 rfl (lv_at hl 2 rfl) ?_
      refine lv_iload hx hb dX1_freeOnLinks_16 (lv_at hl 4 rfl) ?_
      refine cNi (As := [.int x2, .int x4]) (rest := [.ref (q 5)]) S (c_X5_link l D cI cN _ x2 x4 (fX5_link x2 x4) rfl) ⟨va_cnB 2 hts gX1_freeOnLinks_X5_link_n81 rfl rfl rfl hK.2.1 (hts (.initialized RX5) (List.mem_of_getElem? (i := 4) rfl)) (by decide +kernel) ⟨Nat.le_of_ble_eq_true rfl, Nat.le_of_ble_eq_true rfl⟩, (hts (.static yX5_link) (List.mem_of_getElem? (i := 3) rfl)), trivial⟩ hK hP hS hA [] rfl rfl hl.1 rfl (Nat.le_of_ble_eq_true rfl) dX1_freeOnLinks_18 ⟨Nat.zero_le _, Nat.zero_le _⟩ (fun H locs hP hS => ?_)
      refine cPi (As := [.int (fX5_link x2 x4)]) (rest := []) (q0 := 5) (ci := 4) S (c_X4_get l D cI cN (q 5) (q 11) 64 (Nat.le_of_ble_eq_true rfl) _ (n.2 4) (fX5_link x2 x4)) (cwV 1 hts gX1_freeOnLinks_X4_get rfl rfl rfl (by decide +kernel) ⟨Nat.le_of_ble_eq_true rfl, Nat.le_of_ble_eq_true rfl⟩) hK hP hS hA [5, 11] rfl rfl rfl rfl hl.1 rfl (Nat.le_of_ble_eq_true rfl) dX1_freeOnLinks_21 ⟨Nat.zero_le _, Nat.zero_le _⟩ (fun H locs hP hS => ?_)
      refine lv_if_ge (tgt := 34) hx hb dX1_freeOnLinks_24 (by decide) (fun c2 => ?_) (fun c2 => ?_)
      · have hf := it_t hf c2
        refine lv_iinc (v := (x4 + (1 : Int32))) (lv' := [(4, .int (x4 + (1 : Int32))), (0, .ref (q 0)), (1, .ref (q 5)), (2, .int x2), (3, .int x3)]) hx hb dX1_freeOnLinks_34 hl (k := 4) rfl rfl (by decide) rfl (fun ls hl => ?_)
        refine lv_goto (tgt := 5) hx hb dX1_freeOnLinks_37 (by decide) ?_
        exact ih _ _ hf H locs ls hP hS (lv_sub hl [1, 2, 3, 4, 0] rfl)
      · have hf := it_f hf c2
        refine lv_iload_n hx hb dX1_freeOnLinks_27 rfl (lv_at hl 3 rfl) ?_
        refine lv_iconst (v := (1 : Int32)) hx hb dX1_freeOnLinks_28 kc_iconst_1 ?_
        refine lv_iload hx hb dX1_freeOnLinks_29 (lv_at hl 4 rfl) ?_
        refine lv_ishl hx hb dX1_freeOnLinks_31 ?_
        refine lv_ior hx hb dX1_freeOnLinks_32 ?_
        refine lv_istore_n (lv' := [(3, .int (x3 ||| ((1 : Int32) <<< (x4 &&& 31)))), (0, .ref (q 0)), (1, .ref (q 5)), (2, .int x2), (4, .int x4)]) hx hb dX1_freeOnLinks_33 rfl hl (by decide) rfl (fun ls hl => ?_)
        refine lv_iinc (v := (x4 + (1 : Int32))) (lv' := [(4, .int (x4 + (1 : Int32))), (3, .int (x3 ||| ((1 : Int32) <<< (x4 &&& 31)))), (0, .ref (q 0)), (1, .ref (q 5)), (2, .int x2)]) hx hb dX1_freeOnLinks_34 hl (k := 4) rfl rfl (by decide) rfl (fun ls hl => ?_)
        refine lv_goto (tgt := 5) hx hb dX1_freeOnLinks_37 (by decide) ?_
        exact ih _ _ hf H locs ls hP hS (lv_sub hl [2, 3, 4, 1, 0] rfl)
set_option maxRecDepth 100000 in
set_option maxHeartbeats 4000000 in
theorem w_X1_freeOnLinks4_0 {p : Program} {l : Launch} {e : Env} {s : State} {m : MethodId} {args : Array Value} {below : List Frame} {meth : Method} {c : Code} {Q : State → Prop} {D : va_G} {cI cN : ClassId} {q : Nat → Nat} (S : CallFix p m c cX1_freeOnLinks 5 s args wsX1_freeOnLinks RX1) (hK : KN D cI cN s) {n : OS} {x2 : Int32} {r0 : Int32} (hret : ∀ (H : Heap) (locs : List Loc) (ls : Array Slot) (pc : Nat), decode cX1_freeOnLinks pc = .ok (.ireturn, 1) → narrow .int (.int r0) = .int r0 → va_S (nwA s.heap.size) s.heap H locs → W p l e (headSpec wsX1_freeOnLinks rm_X1_freeOnLinks).room s m args below meth c H locs 0 0 Q (F0 m pc ls [.int r0])) (hf : fX1_freeOnLinks4 n x2 = some r0) (H : Heap) (locs : List Loc) (ls : Array Slot) (hP : va_P D vwCl (nwW cI q n) H) (hS : va_S (nwA s.heap.size) s.heap H locs) (hl : lv_has ls 5 [(0, .ref (q 0)), (1, .ref (q 5)), (2, .int x2)]) : W p l e (headSpec wsX1_freeOnLinks rm_X1_freeOnLinks).room s m args below meth c H locs 0 0 Q (F0 m 0 ls []) := by
  obtain ⟨hx, hb, hml, hown, hts⟩ := id S
  have inX1 := in_X1_freeOnLinks_X1
  have hA : ∀ q : Nat, s.heap.size ≤ q → nwA s.heap.size q := fun _ h => h
  unfold fX1_freeOnLinks4 at hf
  refine lv_iconst (v := (0 : Int32)) hx hb dX1_freeOnLinks_0 kc_iconst_0 ?_
  refine lv_istore_n (lv' := [(3, .int (0 : Int32)), (0, .ref (q 0)), (1, .ref (q 5)), (2, .int x2)]) hx hb dX1_freeOnLinks_1 rfl hl (by decide) rfl (fun ls hl => ?_)
  refine lv_iconst (v := (0 : Int32)) hx hb dX1_freeOnLinks_2 kc_iconst_0 ?_
  refine lv_istore (lv' := [(4, .int (0 : Int32)), (3, .int (0 : Int32)), (0, .ref (q 0)), (1, .ref (q 5)), (2, .int x2)]) hx hb dX1_freeOnLinks_3 hl (by decide) rfl (fun ls hl => ?_)
  exact w_X1_freeOnLinks4_5 S hK hret _ _ _ hf H locs ls hP hS (lv_sub hl [2, 3, 4, 1, 0] rfl)
set_option maxRecDepth 100000 in
theorem c_X1_freeOnLinks4 (l : Launch) (D : va_G) (cI cN : ClassId) (q : Nat → Nat) (sz : Nat) (n : OS) (x2 : Int32) (r0 : Int32) (hf : fX1_freeOnLinks4 n x2 = some r0) : CtP l D cI cN yX1_freeOnLinks wsX1_freeOnLinks rm_X1_freeOnLinks [.ref (q 0), .ref (q 5), .int x2] (nwW cI q n) sz r0 := by
  refine mP (cc := cX1_freeOnLinks) (maxL := 5) (ty := .int) (by decide) rfl rfl (Nat.le_of_ble_eq_true rfl) ?_
  intro p e s m args below meth c Q S hK hP hS hret ls hl
  exact w_X1_freeOnLinks4_0 S hK hret hf _ _ _ hP hS (lv_sub (show lv_has ls 5 [(0, .ref (q 0)), (1, .ref (q 5)), (2, .int x2)] from hl) [0, 1, 2] rfl)
abbrev rm_X1_freeOnLinks : Room := { frames := 1, cells := 0, slots := 0, locals := 21 }
theorem in_X1_freeOnLinks_X1 : ∀ w ∈ u_ws RX1 TX1 16, w ∈ wsX1_freeOnLinks := fun w h => List.mem_cons_of_mem _ (List.mem_append_left _ (List.mem_append_right _ h))
set_option maxRecDepth 100000 in
set_option maxHeartbeats 4000000 in
theorem w_X1_freeOnLinks5_5 {p : Program} {l : Launch} {e : Env} {s : State} {m : MethodId} {args : Array Value} {below : List Frame} {meth : Method} {c : Code} {Q : State → Prop} {D : va_G} {cI cN : ClassId} {q : Nat → Nat} (S : CallFix p m c cX1_freeOnLinks 5 s args wsX1_freeOnLinks RX1) (hK : KN D cI cN s) {n : OS} {x2 : Int32} {r0 : Int32} (hret : ∀ (H : Heap) (locs : List Loc) (ls : Array Slot) (pc : Nat), decode cX1_freeOnLinks pc = .ok (.ireturn, 1) → narrow .int (.int r0) = .int r0 → va_S (nwA s.heap.size) s.heap H locs → W p l e (headSpec wsX1_freeOnLinks rm_X1_freeOnLinks).room s m args below meth c H locs 0 0 Q (F0 m pc ls [.int r0])) : ∀ (k : Nat) (x3 : Int32) (x4 : Int32), fX1_freeOnLinks5_5 n x2 k x3 x4 = some r0 → ∀ (H : Heap) (locs : List Loc) (ls : Array Slot), va_P D vwCl (nwW cI q n) H → va_S (nwA s.heap.size) s.heap H locs → lv_has ls 5 [(0, .ref (q 0)), (1, .ref (q 6)), (2, .int x2), (3, .int x3), (4, .int x4)] → W p l e (headSpec wsX1_freeOnLinks rm_X1_freeOnLinks).room s m args below meth c H locs 0 0 Q (F0 m 5 ls []) := by
  obtain ⟨hx, hb, hml, hown, hts⟩ := id S
  have inX1 := in_X1_freeOnLinks_X1
  have hA : ∀ q : Nat, s.heap.size ≤ q → nwA s.heap.size q := fun _ h => h
  intro k
  induction k with
  | zero => intro x3 x4 hf; rw [fX1_freeOnLinks5_5_z] at hf; cases hf
  | succ k ih =>
    intro x3 x4 hf H locs ls hP hS hl
    rw [fX1_freeOnLinks5_5_s] at hf
    refine lv_iload hx hb dX1_freeOnLinks_5 (lv_at hl 4 rfl) ?_
    refine lv_aload_n hx hb dX1_freeOnLinks_7 rfl (lv_at hl 0 rfl) ?_
    refine va_get (D := D) (ci := 1) (v := .int (n.1 2)) (C := RX1) (T := TX1) (N := 16) hx hb hts inX1 hown hK.1 hP 0 rfl rfl 2 (by decide) (hts (.fieldLink RX1 18 "ClosExchange$Network" "middles" "I") (List.mem_of_getElem? (i := 1) rfl)) (fun _ h9 => h9) rfl dX1_freeOnLinks_8 ?_
    refine lv_icmp_ge (tgt := 40) hx hb dX1_freeOnLinks_11 (by decide) (fun c1 => ?_) (fun c1 => ?_)
    · have hf := it_t hf c1
      refine lv_iload_n hx hb dX1_freeOnLinks_40 rfl (lv_at hl 3 rfl) ?_
      refine lv_aload_n hx hb dX1_freeOnLinks_41 rfl (lv_at hl 0 rfl) ?_
      refine va_get (D := D) (ci := 1) (v := .int (n.1 3)) (C := RX1) (T := TX1) (N := 16) hx hb hts inX1 hown hK.1 hP 0 rfl rfl 3 (by decide) (hts (.fieldLink RX1 21 "ClosExchange$Network" "service" "I") (List.mem_of_getElem? (i := 2) rfl)) (fun _ h9 => h9) rfl dX1_freeOnLinks_42 ?_
      refine lv_iand hx hb dX1_freeOnLinks_45 ?_
      cases hf
      exact hret H locs ls _ dX1_freeOnLinks_46 rfl hS
    · have hf := it_f hf c1
      refine lv_aload_n hx hb dX1_freeOnLinks_14 rfl (lv_at hl 1 rfl) ?_
      refine lv_iload_n hx hb dX1_freeOnLinks_15 rfl (lv_at hl 2 rfl) ?_
      refine lv_iload hx hb dX1_freeOnLinks_16 (lv_at hl 4 rfl) ?_
      refine cNi (As := [.int x2, .int x4]) (rest := [.ref (q 6)]) S (c_X5_link l D cI cN _ x2 x4 (fX5_link x2 x4) rfl) ⟨va_cnB 2 hts gX1_freeOnLinks_X5_link_n81 rfl rfl rfl hK.2.1 (hts (.initialized RX5) (List.mem_of_getElem? (i := 4) rfl)) (by decide +kernel) ⟨Nat.le_of_ble_eq_true rfl, Nat.le_of_ble_eq_true rfl⟩, (hts (.static yX5_link) (List.mem_of_getElem? (i := 3) rfl)), trivial⟩ hK hP hS hA [] rfl rfl hl.1 rfl (Nat.le_of_ble_eq_true rfl) dX1_freeOnLinks_18 ⟨Nat.zero_le _, Nat.zero_le _⟩ (fun H locs hP hS => ?_)
      refine cPi (As := [.int (fX5_link x2 x4)]) (rest := []) (q0 := 6) (ci := 4) S (c_X4_get l D cI cN (q 6) (q 12) 64 (Nat.le_of_ble_eq_true rfl) _ (n.2 5) (fX5_link x2 x4)) (cwV 1 hts gX1_freeOnLinks_X4_get rfl rfl rfl (by decide +kernel) ⟨Nat.le_of_ble_eq_true rfl, Nat.le_of_ble_eq_true rfl⟩) hK hP hS hA [6, 12] rfl rfl rfl rfl hl.1 rfl (Nat.le_of_ble_eq_true rfl) dX1_freeOnLinks_21 ⟨Nat.zero_le _, Nat.zero_le _⟩ (fun H locs hP hS => ?_)
      refine lv_if_ge (tgt := 34) hx hb dX1_freeOnLinks_24 (by decide) (fun c2 => ?_) (fun c2 => ?_)
      · have hf := it_t hf c2
        refine lv_iinc (v := (x4 + (1 : Int32))) (lv' := [(4, .int (x4 + (1 : Int32))), (0, .ref (q 0)), (1, .ref (q 6)), (2, .int x2), (3, .int x3)]) hx hb dX1_freeOnLinks_34 hl (k := 4) rfl rfl (by decide) rfl (fun ls hl => ?_)
        refine lv_goto (tgt := 5) hx hb dX1_freeOnLinks_37 (by decide) ?_
        exact ih _ _ hf H locs ls hP hS (lv_sub hl [1, 2, 3, 4, 0] rfl)
      · have hf := it_f hf c2
        refine lv_iload_n hx hb dX1_freeOnLinks_27 rfl (lv_at hl 3 rfl) ?_
        refine lv_iconst (v := (1 : Int32)) hx hb dX1_freeOnLinks_28 kc_iconst_1 ?_
        refine lv_iload hx hb dX1_freeOnLinks_29 (lv_at hl 4 rfl) ?_
        refine lv_ishl hx hb dX1_freeOnLinks_31 ?_
        refine lv_ior hx hb dX1_freeOnLinks_32 ?_
        refine lv_istore_n (lv' := [(3, .int (x3 ||| ((1 : Int32) <<< (x4 &&& 31)))), (0, .ref (q 0)), (1, .ref (q 6)), (2, .int x2), (4, .int x4)]) hx hb dX1_freeOnLinks_33 rfl hl (by decide) rfl (fun ls hl => ?_)
        refine lv_iinc (v := (x4 + (1 : Int32))) (lv' := [(4, .int (x4 + (1 : Int32))), (3, .int (x3 ||| ((1 : Int32) <<< (x4 &&& 31)))), (0, .ref (q 0)), (1, .ref (q 6)), (2, .int x2)]) hx hb dX1_freeOnLinks_34 hl (k := 4) rfl rfl (by decide) rfl (fun ls hl => ?_)
        refine lv_goto (tgt := 5) hx hb dX1_freeOnLinks_37 (by decide) ?_
        exact ih _ _ hf H locs ls hP hS (lv_sub hl [2, 3, 4, 1, 0] rfl)
set_option maxRecDepth 100000 in
set_option maxHeartbeats 4000000 in
theorem w_X1_freeOnLinks5_0 {p : Program} {l : Launch} {e : Env} {s : State} {m : MethodId} {args : Array Value} {below : List Frame} {meth : Method} {c : Code} {Q : State → Prop} {D : va_G} {cI cN : ClassId} {q : Nat → Nat} (S : CallFix p m c cX1_freeOnLinks 5 s args wsX1_freeOnLinks RX1) (hK : KN D cI cN s) {n : OS} {x2 : Int32} {r0 : Int32} (hret : ∀ (H : Heap) (locs : List Loc) (ls : Array Slot) (pc : Nat), decode cX1_freeOnLinks pc = .ok (.ireturn, 1) → narrow .int (.int r0) = .int r0 → va_S (nwA s.heap.size) s.heap H locs → W p l e (headSpec wsX1_freeOnLinks rm_X1_freeOnLinks).room s m args below meth c H locs 0 0 Q (F0 m pc ls [.int r0])) (hf : fX1_freeOnLinks5 n x2 = some r0) (H : Heap) (locs : List Loc) (ls : Array Slot) (hP : va_P D vwCl (nwW cI q n) H) (hS : va_S (nwA s.heap.size) s.heap H locs) (hl : lv_has ls 5 [(0, .ref (q 0)), (1, .ref (q 6)), (2, .int x2)]) : W p l e (headSpec wsX1_freeOnLinks rm_X1_freeOnLinks).room s m args below meth c H locs 0 0 Q (F0 m 0 ls []) := by
  obtain ⟨hx, hb, hml, hown, hts⟩ := id S
  have inX1 := in_X1_freeOnLinks_X1
  have hA : ∀ q : Nat, s.heap.size ≤ q → nwA s.heap.size q := fun _ h => h
  unfold fX1_freeOnLinks5 at hf
  refine lv_iconst (v := (0 : Int32)) hx hb dX1_freeOnLinks_0 kc_iconst_0 ?_
  refine lv_istore_n (lv' := [(3, .int (0 : Int32)), (0, .ref (q 0)), (1, .ref (q 6)), (2, .int x2)]) hx hb dX1_freeOnLinks_1 rfl hl (by decide) rfl (fun ls hl => ?_)
  refine lv_iconst (v := (0 : Int32)) hx hb dX1_freeOnLinks_2 kc_iconst_0 ?_
  refine lv_istore (lv' := [(4, .int (0 : Int32)), (3, .int (0 : Int32)), (0, .ref (q 0)), (1, .ref (q 6)), (2, .int x2)]) hx hb dX1_freeOnLinks_3 hl (by decide) rfl (fun ls hl => ?_)
  exact w_X1_freeOnLinks5_5 S hK hret _ _ _ hf H locs ls hP hS (lv_sub hl [2, 3, 4, 1, 0] rfl)
set_option maxRecDepth 100000 in
theorem c_X1_freeOnLinks5 (l : Launch) (D : va_G) (cI cN : ClassId) (q : Nat → Nat) (sz : Nat) (n : OS) (x2 : Int32) (r0 : Int32) (hf : fX1_freeOnLinks5 n x2 = some r0) : CtP l D cI cN yX1_freeOnLinks wsX1_freeOnLinks rm_X1_freeOnLinks [.ref (q 0), .ref (q 6), .int x2] (nwW cI q n) sz r0 := by
  refine mP (cc := cX1_freeOnLinks) (maxL := 5) (ty := .int) (by decide) rfl rfl (Nat.le_of_ble_eq_true rfl) ?_
  intro p e s m args below meth c Q S hK hP hS hret ls hl
  exact w_X1_freeOnLinks5_0 S hK hret hf _ _ _ hP hS (lv_sub (show lv_has ls 5 [(0, .ref (q 0)), (1, .ref (q 6)), (2, .int x2)] from hl) [0, 1, 2] rfl)
end
