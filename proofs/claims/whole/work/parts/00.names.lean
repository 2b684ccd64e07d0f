-- ===== PART A: goes FIRST, ahead of the names: the tables' words, and 'selects' of the private methods out of them =====
/-- a private method of a class that the tables say can be made, by its rows of tables_1 -/
def lw_okq (q : MethodName × Nat) : Prop := (q.1.cls ≠ "java/lang/invoke/MethodHandle" ∧ q.1.cls ≠ "java/lang/invoke/VarHandle") ∧ Cond.instantiable q.1.cls q.2 ∈ tables_1 ∧ Cond.privateMethod q.1 ∈ tables_1 ∧ Cond.instanceMethod q.1 ∈ tables_1
theorem lw_p0 : lw_okq (⟨"SomebodyElseTonight$Reader", "add", "(I)V"⟩, 8) := ⟨⟨by decide +kernel, by decide +kernel⟩, List.mem_of_getElem? (i := 200) (by decide +kernel), List.mem_of_getElem? (i := 287) (by decide +kernel), List.mem_of_getElem? (i := 288) (by decide +kernel)⟩
theorem lw_p1 : lw_okq (⟨"SomebodyElseTonight$Reader", "read", "()I"⟩, 8) := ⟨⟨by decide +kernel, by decide +kernel⟩, List.mem_of_getElem? (i := 200) (by decide +kernel), List.mem_of_getElem? (i := 298) (by decide +kernel), List.mem_of_getElem? (i := 299) (by decide +kernel)⟩
theorem lw_p2 : lw_okq (⟨"SomebodyElseTonight$Reader", "advance", "()V"⟩, 8) := ⟨⟨by decide +kernel, by decide +kernel⟩, List.mem_of_getElem? (i := 200) (by decide +kernel), List.mem_of_getElem? (i := 302) (by decide +kernel), List.mem_of_getElem? (i := 303) (by decide +kernel)⟩
theorem lw_p3 : lw_okq (⟨"SomebodyElseTonight$Reader", "word", "()I"⟩, 8) := ⟨⟨by decide +kernel, by decide +kernel⟩, List.mem_of_getElem? (i := 200) (by decide +kernel), List.mem_of_getElem? (i := 313) (by decide +kernel), List.mem_of_getElem? (i := 314) (by decide +kernel)⟩
theorem lw_p4 : lw_okq (⟨"SomebodyElseTonight$Reader", "isWord", "(Ljava/lang/String;)Z"⟩, 8) := ⟨⟨by decide +kernel, by decide +kernel⟩, List.mem_of_getElem? (i := 200) (by decide +kernel), List.mem_of_getElem? (i := 318) (by decide +kernel), List.mem_of_getElem? (i := 319) (by decide +kernel)⟩
theorem lw_p5 : lw_okq (⟨"SomebodyElseTonight$Reader", "number", "()I"⟩, 8) := ⟨⟨by decide +kernel, by decide +kernel⟩, List.mem_of_getElem? (i := 200) (by decide +kernel), List.mem_of_getElem? (i := 384) (by decide +kernel), List.mem_of_getElem? (i := 385) (by decide +kernel)⟩
theorem lw_p6 : lw_okq (⟨"SomebodyElseTonight$Reader", "part", "(I)Z"⟩, 8) := ⟨⟨by decide +kernel, by decide +kernel⟩, List.mem_of_getElem? (i := 200) (by decide +kernel), List.mem_of_getElem? (i := 391) (by decide +kernel), List.mem_of_getElem? (i := 392) (by decide +kernel)⟩
theorem lw_p7 : lw_okq (⟨"SomebodyElseTonight$Reader", "take", "(I)Z"⟩, 8) := ⟨⟨by decide +kernel, by decide +kernel⟩, List.mem_of_getElem? (i := 200) (by decide +kernel), List.mem_of_getElem? (i := 395) (by decide +kernel), List.mem_of_getElem? (i := 396) (by decide +kernel)⟩
theorem lw_p8 : lw_okq (⟨"SomebodyElseTonight$Reader", "either", "(I)Z"⟩, 8) := ⟨⟨by decide +kernel, by decide +kernel⟩, List.mem_of_getElem? (i := 200) (by decide +kernel), List.mem_of_getElem? (i := 399) (by decide +kernel), List.mem_of_getElem? (i := 400) (by decide +kernel)⟩
theorem lw_p9 : lw_okq (⟨"SomebodyElseTonight$Reader", "both", "(I)Z"⟩, 8) := ⟨⟨by decide +kernel, by decide +kernel⟩, List.mem_of_getElem? (i := 200) (by decide +kernel), List.mem_of_getElem? (i := 403) (by decide +kernel), List.mem_of_getElem? (i := 404) (by decide +kernel)⟩
theorem lw_p10 : lw_okq (⟨"SomebodyElseTonight$Reader", "negation", "(I)Z"⟩, 8) := ⟨⟨by decide +kernel, by decide +kernel⟩, List.mem_of_getElem? (i := 200) (by decide +kernel), List.mem_of_getElem? (i := 407) (by decide +kernel), List.mem_of_getElem? (i := 408) (by decide +kernel)⟩
theorem lw_p11 : lw_okq (⟨"SomebodyElseTonight$Reader", "emit", "(I)V"⟩, 8) := ⟨⟨by decide +kernel, by decide +kernel⟩, List.mem_of_getElem? (i := 200) (by decide +kernel), List.mem_of_getElem? (i := 411) (by decide +kernel), List.mem_of_getElem? (i := 412) (by decide +kernel)⟩
theorem lw_p12 : lw_okq (⟨"SomebodyElseTonight$Reader", "sum", "(I)Z"⟩, 8) := ⟨⟨by decide +kernel, by decide +kernel⟩, List.mem_of_getElem? (i := 200) (by decide +kernel), List.mem_of_getElem? (i := 415) (by decide +kernel), List.mem_of_getElem? (i := 416) (by decide +kernel)⟩
theorem lw_p13 : lw_okq (⟨"SomebodyElseTonight$Reader", "product", "(I)Z"⟩, 8) := ⟨⟨by decide +kernel, by decide +kernel⟩, List.mem_of_getElem? (i := 200) (by decide +kernel), List.mem_of_getElem? (i := 419) (by decide +kernel), List.mem_of_getElem? (i := 420) (by decide +kernel)⟩
theorem lw_p14 : lw_okq (⟨"SomebodyElseTonight$Reader", "one", "(I)Z"⟩, 8) := ⟨⟨by decide +kernel, by decide +kernel⟩, List.mem_of_getElem? (i := 200) (by decide +kernel), List.mem_of_getElem? (i := 423) (by decide +kernel), List.mem_of_getElem? (i := 424) (by decide +kernel)⟩
theorem lw_p15 : lw_okq (⟨"SomebodyElseTonight$Stage", "addText", "(LSomebodyElseTonight$Text;)I"⟩, 5) := ⟨⟨by decide +kernel, by decide +kernel⟩, List.mem_of_getElem? (i := 31) (by decide +kernel), List.mem_of_getElem? (i := 429) (by decide +kernel), List.mem_of_getElem? (i := 430) (by decide +kernel)⟩
def lw_privs_1 : List (MethodName × Nat) := [(⟨"SomebodyElseTonight$Reader", "add", "(I)V"⟩, 8), (⟨"SomebodyElseTonight$Reader", "read", "()I"⟩, 8), (⟨"SomebodyElseTonight$Reader", "advance", "()V"⟩, 8), (⟨"SomebodyElseTonight$Reader", "word", "()I"⟩, 8), (⟨"SomebodyElseTonight$Reader", "isWord", "(Ljava/lang/String;)Z"⟩, 8), (⟨"SomebodyElseTonight$Reader", "number", "()I"⟩, 8), (⟨"SomebodyElseTonight$Reader", "part", "(I)Z"⟩, 8), (⟨"SomebodyElseTonight$Reader", "take", "(I)Z"⟩, 8), (⟨"SomebodyElseTonight$Reader", "either", "(I)Z"⟩, 8), (⟨"SomebodyElseTonight$Reader", "both", "(I)Z"⟩, 8), (⟨"SomebodyElseTonight$Reader", "negation", "(I)Z"⟩, 8), (⟨"SomebodyElseTonight$Reader", "emit", "(I)V"⟩, 8), (⟨"SomebodyElseTonight$Reader", "sum", "(I)Z"⟩, 8), (⟨"SomebodyElseTonight$Reader", "product", "(I)Z"⟩, 8), (⟨"SomebodyElseTonight$Reader", "one", "(I)Z"⟩, 8), (⟨"SomebodyElseTonight$Stage", "addText", "(LSomebodyElseTonight$Text;)I"⟩, 5)]
theorem lw_r1 : ∀ q ∈ lw_privs_1, lw_okq q := List.forall_mem_cons.mpr ⟨lw_p0, List.forall_mem_cons.mpr ⟨lw_p1, List.forall_mem_cons.mpr ⟨lw_p2, List.forall_mem_cons.mpr ⟨lw_p3, List.forall_mem_cons.mpr ⟨lw_p4, List.forall_mem_cons.mpr ⟨lw_p5, List.forall_mem_cons.mpr ⟨lw_p6, List.forall_mem_cons.mpr ⟨lw_p7, List.forall_mem_cons.mpr ⟨lw_p8, List.forall_mem_cons.mpr ⟨lw_p9, List.forall_mem_cons.mpr ⟨lw_p10, List.forall_mem_cons.mpr ⟨lw_p11, List.forall_mem_cons.mpr ⟨lw_p12, List.forall_mem_cons.mpr ⟨lw_p13, List.forall_mem_cons.mpr ⟨lw_p14, List.forall_mem_cons.mpr ⟨lw_p15, fun _ h => absurd h List.not_mem_nil⟩⟩⟩⟩⟩⟩⟩⟩⟩⟩⟩⟩⟩⟩⟩⟩
theorem lw_p16 : lw_okq (⟨"SomebodyElseTonight", "arePair", "(I)Z"⟩, 7) := ⟨⟨by decide +kernel, by decide +kernel⟩, List.mem_of_getElem? (i := 17) (by decide +kernel), List.mem_of_getElem? (i := 442) (by decide +kernel), List.mem_of_getElem? (i := 443) (by decide +kernel)⟩
theorem lw_p17 : lw_okq (⟨"SomebodyElseTonight$Club", "has", "(I)Z"⟩, 9) := ⟨⟨by decide +kernel, by decide +kernel⟩, List.mem_of_getElem? (i := 37) (by decide +kernel), List.mem_of_getElem? (i := 446) (by decide +kernel), List.mem_of_getElem? (i := 447) (by decide +kernel)⟩
theorem lw_p18 : lw_okq (⟨"SomebodyElseTonight$Stage", "law", "()LSomebodyElseTonight$Text;"⟩, 5) := ⟨⟨by decide +kernel, by decide +kernel⟩, List.mem_of_getElem? (i := 31) (by decide +kernel), List.mem_of_getElem? (i := 453) (by decide +kernel), List.mem_of_getElem? (i := 454) (by decide +kernel)⟩
theorem lw_p19 : lw_okq (⟨"SomebodyElseTonight$Stage", "asking", "(III)LSomebodyElseTonight$Asked;"⟩, 5) := ⟨⟨by decide +kernel, by decide +kernel⟩, List.mem_of_getElem? (i := 31) (by decide +kernel), List.mem_of_getElem? (i := 457) (by decide +kernel), List.mem_of_getElem? (i := 458) (by decide +kernel)⟩
theorem lw_p20 : lw_okq (⟨"SomebodyElseTonight$Club", "apart", "(II)I"⟩, 9) := ⟨⟨by decide +kernel, by decide +kernel⟩, List.mem_of_getElem? (i := 37) (by decide +kernel), List.mem_of_getElem? (i := 462) (by decide +kernel), List.mem_of_getElem? (i := 463) (by decide +kernel)⟩
theorem lw_p21 : lw_okq (⟨"SomebodyElseTonight$Text", "says", "(ILSomebodyElseTonight$Asked;)I"⟩, 3) := ⟨⟨by decide +kernel, by decide +kernel⟩, List.mem_of_getElem? (i := 92) (by decide +kernel), List.mem_of_getElem? (i := 476) (by decide +kernel), List.mem_of_getElem? (i := 477) (by decide +kernel)⟩
theorem lw_p22 : lw_okq (⟨"SomebodyElseTonight$Asked", "named", "(I)I"⟩, 7) := ⟨⟨by decide +kernel, by decide +kernel⟩, List.mem_of_getElem? (i := 123) (by decide +kernel), List.mem_of_getElem? (i := 480) (by decide +kernel), List.mem_of_getElem? (i := 481) (by decide +kernel)⟩
theorem lw_p23 : lw_okq (⟨"SomebodyElseTonight$Club", "add", "(III)I"⟩, 9) := ⟨⟨by decide +kernel, by decide +kernel⟩, List.mem_of_getElem? (i := 37) (by decide +kernel), List.mem_of_getElem? (i := 492) (by decide +kernel), List.mem_of_getElem? (i := 493) (by decide +kernel)⟩
theorem lw_p24 : lw_okq (⟨"SomebodyElseTonight$Stage", "passesFrom", "(I)I"⟩, 5) := ⟨⟨by decide +kernel, by decide +kernel⟩, List.mem_of_getElem? (i := 31) (by decide +kernel), List.mem_of_getElem? (i := 502) (by decide +kernel), List.mem_of_getElem? (i := 503) (by decide +kernel)⟩
theorem lw_p25 : lw_okq (⟨"SomebodyElseTonight$Stage", "well", "(III)I"⟩, 5) := ⟨⟨by decide +kernel, by decide +kernel⟩, List.mem_of_getElem? (i := 31) (by decide +kernel), List.mem_of_getElem? (i := 517) (by decide +kernel), List.mem_of_getElem? (i := 518) (by decide +kernel)⟩
theorem lw_p26 : lw_okq (⟨"SomebodyElseTonight$Stage", "doing", "(III)I"⟩, 5) := ⟨⟨by decide +kernel, by decide +kernel⟩, List.mem_of_getElem? (i := 31) (by decide +kernel), List.mem_of_getElem? (i := 534) (by decide +kernel), List.mem_of_getElem? (i := 535) (by decide +kernel)⟩
theorem lw_p27 : lw_okq (⟨"SomebodyElseTonight$Stage", "knownOn", "(II)I"⟩, 5) := ⟨⟨by decide +kernel, by decide +kernel⟩, List.mem_of_getElem? (i := 31) (by decide +kernel), List.mem_of_getElem? (i := 551) (by decide +kernel), List.mem_of_getElem? (i := 552) (by decide +kernel)⟩
theorem lw_p28 : lw_okq (⟨"SomebodyElseTonight$Stage", "tally", "(I[I)I"⟩, 5) := ⟨⟨by decide +kernel, by decide +kernel⟩, List.mem_of_getElem? (i := 31) (by decide +kernel), List.mem_of_getElem? (i := 560) (by decide +kernel), List.mem_of_getElem? (i := 561) (by decide +kernel)⟩
theorem lw_p29 : lw_okq (⟨"SomebodyElseTonight$Club", "pay", "(III)V"⟩, 9) := ⟨⟨by decide +kernel, by decide +kernel⟩, List.mem_of_getElem? (i := 37) (by decide +kernel), List.mem_of_getElem? (i := 569) (by decide +kernel), List.mem_of_getElem? (i := 570) (by decide +kernel)⟩
theorem lw_p30 : lw_okq (⟨"SomebodyElseTonight$Club", "behind", "(I)I"⟩, 9) := ⟨⟨by decide +kernel, by decide +kernel⟩, List.mem_of_getElem? (i := 37) (by decide +kernel), List.mem_of_getElem? (i := 575) (by decide +kernel), List.mem_of_getElem? (i := 576) (by decide +kernel)⟩
theorem lw_p31 : lw_okq (⟨"SomebodyElseTonight$Draws", "compare", "(I)V"⟩, 6) := ⟨⟨by decide +kernel, by decide +kernel⟩, List.mem_of_getElem? (i := 25) (by decide +kernel), List.mem_of_getElem? (i := 586) (by decide +kernel), List.mem_of_getElem? (i := 587) (by decide +kernel)⟩
def lw_privs_2 : List (MethodName × Nat) := [(⟨"SomebodyElseTonight", "arePair", "(I)Z"⟩, 7), (⟨"SomebodyElseTonight$Club", "has", "(I)Z"⟩, 9), (⟨"SomebodyElseTonight$Stage", "law", "()LSomebodyElseTonight$Text;"⟩, 5), (⟨"SomebodyElseTonight$Stage", "asking", "(III)LSomebodyElseTonight$Asked;"⟩, 5), (⟨"SomebodyElseTonight$Club", "apart", "(II)I"⟩, 9), (⟨"SomebodyElseTonight$Text", "says", "(ILSomebodyElseTonight$Asked;)I"⟩, 3), (⟨"SomebodyElseTonight$Asked", "named", "(I)I"⟩, 7), (⟨"SomebodyElseTonight$Club", "add", "(III)I"⟩, 9), (⟨"SomebodyElseTonight$Stage", "passesFrom", "(I)I"⟩, 5), (⟨"SomebodyElseTonight$Stage", "well", "(III)I"⟩, 5), (⟨"SomebodyElseTonight$Stage", "doing", "(III)I"⟩, 5), (⟨"SomebodyElseTonight$Stage", "knownOn", "(II)I"⟩, 5), (⟨"SomebodyElseTonight$Stage", "tally", "(I[I)I"⟩, 5), (⟨"SomebodyElseTonight$Club", "pay", "(III)V"⟩, 9), (⟨"SomebodyElseTonight$Club", "behind", "(I)I"⟩, 9), (⟨"SomebodyElseTonight$Draws", "compare", "(I)V"⟩, 6)]
theorem lw_r2 : ∀ q ∈ lw_privs_2, lw_okq q := List.forall_mem_cons.mpr ⟨lw_p16, List.forall_mem_cons.mpr ⟨lw_p17, List.forall_mem_cons.mpr ⟨lw_p18, List.forall_mem_cons.mpr ⟨lw_p19, List.forall_mem_cons.mpr ⟨lw_p20, List.forall_mem_cons.mpr ⟨lw_p21, List.forall_mem_cons.mpr ⟨lw_p22, List.forall_mem_cons.mpr ⟨lw_p23, List.forall_mem_cons.mpr ⟨lw_p24, List.forall_mem_cons.mpr ⟨lw_p25, List.forall_mem_cons.mpr ⟨lw_p26, List.forall_mem_cons.mpr ⟨lw_p27, List.forall_mem_cons.mpr ⟨lw_p28, List.forall_mem_cons.mpr ⟨lw_p29, List.forall_mem_cons.mpr ⟨lw_p30, List.forall_mem_cons.mpr ⟨lw_p31, fun _ h => absurd h List.not_mem_nil⟩⟩⟩⟩⟩⟩⟩⟩⟩⟩⟩⟩⟩⟩⟩⟩
theorem lw_p32 : lw_okq (⟨"SomebodyElseTonight$Draws", "canBe", "(II)I"⟩, 6) := ⟨⟨by decide +kernel, by decide +kernel⟩, List.mem_of_getElem? (i := 25) (by decide +kernel), List.mem_of_getElem? (i := 594) (by decide +kernel), List.mem_of_getElem? (i := 595) (by decide +kernel)⟩
theorem lw_p33 : lw_okq (⟨"SomebodyElseTonight$Draws", "compareAll", "()V"⟩, 6) := ⟨⟨by decide +kernel, by decide +kernel⟩, List.mem_of_getElem? (i := 25) (by decide +kernel), List.mem_of_getElem? (i := 602) (by decide +kernel), List.mem_of_getElem? (i := 603) (by decide +kernel)⟩
theorem lw_p34 : lw_okq (⟨"SomebodyElseTonight$Draws", "fitting", "(I)I"⟩, 6) := ⟨⟨by decide +kernel, by decide +kernel⟩, List.mem_of_getElem? (i := 25) (by decide +kernel), List.mem_of_getElem? (i := 607) (by decide +kernel), List.mem_of_getElem? (i := 608) (by decide +kernel)⟩
theorem lw_p35 : lw_okq (⟨"SomebodyElseTonight$Draws", "firstFitting", "()I"⟩, 6) := ⟨⟨by decide +kernel, by decide +kernel⟩, List.mem_of_getElem? (i := 25) (by decide +kernel), List.mem_of_getElem? (i := 613) (by decide +kernel), List.mem_of_getElem? (i := 614) (by decide +kernel)⟩
theorem lw_p36 : lw_okq (⟨"SomebodyElseTonight$Draws", "digits", "()I"⟩, 6) := ⟨⟨by decide +kernel, by decide +kernel⟩, List.mem_of_getElem? (i := 25) (by decide +kernel), List.mem_of_getElem? (i := 617) (by decide +kernel), List.mem_of_getElem? (i := 618) (by decide +kernel)⟩
theorem lw_p37 : lw_okq (⟨"SomebodyElseTonight$Draws", "weigh", "(III)V"⟩, 6) := ⟨⟨by decide +kernel, by decide +kernel⟩, List.mem_of_getElem? (i := 25) (by decide +kernel), List.mem_of_getElem? (i := 634) (by decide +kernel), List.mem_of_getElem? (i := 635) (by decide +kernel)⟩
theorem lw_p38 : lw_okq (⟨"SomebodyElseTonight$Draws", "leastSum", "()I"⟩, 6) := ⟨⟨by decide +kernel, by decide +kernel⟩, List.mem_of_getElem? (i := 25) (by decide +kernel), List.mem_of_getElem? (i := 638) (by decide +kernel), List.mem_of_getElem? (i := 639) (by decide +kernel)⟩
theorem lw_p39 : lw_okq (⟨"SomebodyElseTonight$Draws", "sumBy", "(III)I"⟩, 6) := ⟨⟨by decide +kernel, by decide +kernel⟩, List.mem_of_getElem? (i := 25) (by decide +kernel), List.mem_of_getElem? (i := 643) (by decide +kernel), List.mem_of_getElem? (i := 644) (by decide +kernel)⟩
theorem lw_p40 : lw_okq (⟨"SomebodyElseTonight$Draws", "firstLeast", "()I"⟩, 6) := ⟨⟨by decide +kernel, by decide +kernel⟩, List.mem_of_getElem? (i := 25) (by decide +kernel), List.mem_of_getElem? (i := 648) (by decide +kernel), List.mem_of_getElem? (i := 649) (by decide +kernel)⟩
theorem lw_p41 : lw_okq (⟨"SomebodyElseTonight$Club", "chained", "(II)I"⟩, 9) := ⟨⟨by decide +kernel, by decide +kernel⟩, List.mem_of_getElem? (i := 37) (by decide +kernel), List.mem_of_getElem? (i := 656) (by decide +kernel), List.mem_of_getElem? (i := 657) (by decide +kernel)⟩
theorem lw_p42 : lw_okq (⟨"SomebodyElseTonight$Stage", "otherwise", "(I)I"⟩, 5) := ⟨⟨by decide +kernel, by decide +kernel⟩, List.mem_of_getElem? (i := 31) (by decide +kernel), List.mem_of_getElem? (i := 672) (by decide +kernel), List.mem_of_getElem? (i := 673) (by decide +kernel)⟩
theorem lw_p43 : lw_okq (⟨"SomebodyElseTonight", "refusalOfTold", "(I)I"⟩, 7) := ⟨⟨by decide +kernel, by decide +kernel⟩, List.mem_of_getElem? (i := 17) (by decide +kernel), List.mem_of_getElem? (i := 680) (by decide +kernel), List.mem_of_getElem? (i := 681) (by decide +kernel)⟩
theorem lw_p44 : lw_okq (⟨"SomebodyElseTonight", "sheetAt", "(I)LSomebodyElseTonight$Sheet;"⟩, 7) := ⟨⟨by decide +kernel, by decide +kernel⟩, List.mem_of_getElem? (i := 17) (by decide +kernel), List.mem_of_getElem? (i := 684) (by decide +kernel), List.mem_of_getElem? (i := 685) (by decide +kernel)⟩
theorem lw_p45 : lw_okq (⟨"SomebodyElseTonight", "firstOtherwise", "(II)I"⟩, 7) := ⟨⟨by decide +kernel, by decide +kernel⟩, List.mem_of_getElem? (i := 17) (by decide +kernel), List.mem_of_getElem? (i := 688) (by decide +kernel), List.mem_of_getElem? (i := 689) (by decide +kernel)⟩
theorem lw_p46 : lw_okq (⟨"SomebodyElseTonight$Sheet", "become", "(II)V"⟩, 3) := ⟨⟨by decide +kernel, by decide +kernel⟩, List.mem_of_getElem? (i := 235) (by decide +kernel), List.mem_of_getElem? (i := 713) (by decide +kernel), List.mem_of_getElem? (i := 714) (by decide +kernel)⟩
theorem lw_p47 : lw_okq (⟨"SomebodyElseTonight$Sheet", "write", "(II)V"⟩, 3) := ⟨⟨by decide +kernel, by decide +kernel⟩, List.mem_of_getElem? (i := 235) (by decide +kernel), List.mem_of_getElem? (i := 719) (by decide +kernel), List.mem_of_getElem? (i := 720) (by decide +kernel)⟩
def lw_privs_3 : List (MethodName × Nat) := [(⟨"SomebodyElseTonight$Draws", "canBe", "(II)I"⟩, 6), (⟨"SomebodyElseTonight$Draws", "compareAll", "()V"⟩, 6), (⟨"SomebodyElseTonight$Draws", "fitting", "(I)I"⟩, 6), (⟨"SomebodyElseTonight$Draws", "firstFitting", "()I"⟩, 6), (⟨"SomebodyElseTonight$Draws", "digits", "()I"⟩, 6), (⟨"SomebodyElseTonight$Draws", "weigh", "(III)V"⟩, 6), (⟨"SomebodyElseTonight$Draws", "leastSum", "()I"⟩, 6), (⟨"SomebodyElseTonight$Draws", "sumBy", "(III)I"⟩, 6), (⟨"SomebodyElseTonight$Draws", "firstLeast", "()I"⟩, 6), (⟨"SomebodyElseTonight$Club", "chained", "(II)I"⟩, 9), (⟨"SomebodyElseTonight$Stage", "otherwise", "(I)I"⟩, 5), (⟨"SomebodyElseTonight", "refusalOfTold", "(I)I"⟩, 7), (⟨"SomebodyElseTonight", "sheetAt", "(I)LSomebodyElseTonight$Sheet;"⟩, 7), (⟨"SomebodyElseTonight", "firstOtherwise", "(II)I"⟩, 7), (⟨"SomebodyElseTonight$Sheet", "become", "(II)V"⟩, 3), (⟨"SomebodyElseTonight$Sheet", "write", "(II)V"⟩, 3)]
theorem lw_r3 : ∀ q ∈ lw_privs_3, lw_okq q := List.forall_mem_cons.mpr ⟨lw_p32, List.forall_mem_cons.mpr ⟨lw_p33, List.forall_mem_cons.mpr ⟨lw_p34, List.forall_mem_cons.mpr ⟨lw_p35, List.forall_mem_cons.mpr ⟨lw_p36, List.forall_mem_cons.mpr ⟨lw_p37, List.forall_mem_cons.mpr ⟨lw_p38, List.forall_mem_cons.mpr ⟨lw_p39, List.forall_mem_cons.mpr ⟨lw_p40, List.forall_mem_cons.mpr ⟨lw_p41, List.forall_mem_cons.mpr ⟨lw_p42, List.forall_mem_cons.mpr ⟨lw_p43, List.forall_mem_cons.mpr ⟨lw_p44, List.forall_mem_cons.mpr ⟨lw_p45, List.forall_mem_cons.mpr ⟨lw_p46, List.forall_mem_cons.mpr ⟨lw_p47, fun _ h => absurd h List.not_mem_nil⟩⟩⟩⟩⟩⟩⟩⟩⟩⟩⟩⟩⟩⟩⟩⟩
theorem lw_p48 : lw_okq (⟨"SomebodyElseTonight$Draws", "byLots", "(I)V"⟩, 6) := ⟨⟨by decide +kernel, by decide +kernel⟩, List.mem_of_getElem? (i := 25) (by decide +kernel), List.mem_of_getElem? (i := 731) (by decide +kernel), List.mem_of_getElem? (i := 732) (by decide +kernel)⟩
theorem lw_p49 : lw_okq (⟨"SomebodyElseTonight$Draws", "selves", "()I"⟩, 6) := ⟨⟨by decide +kernel, by decide +kernel⟩, List.mem_of_getElem? (i := 25) (by decide +kernel), List.mem_of_getElem? (i := 737) (by decide +kernel), List.mem_of_getElem? (i := 738) (by decide +kernel)⟩
theorem lw_p50 : lw_okq (⟨"SomebodyElseTonight$Club", "become", "(LSomebodyElseTonight$Club;)V"⟩, 9) := ⟨⟨by decide +kernel, by decide +kernel⟩, List.mem_of_getElem? (i := 37) (by decide +kernel), List.mem_of_getElem? (i := 766) (by decide +kernel), List.mem_of_getElem? (i := 767) (by decide +kernel)⟩
theorem lw_p51 : lw_okq (⟨"SomebodyElseTonightModel", "goesNext", "()V"⟩, 38) := ⟨⟨by decide +kernel, by decide +kernel⟩, List.mem_of_getElem? (i := 796) (by decide +kernel), List.mem_of_getElem? (i := 806) (by decide +kernel), List.mem_of_getElem? (i := 807) (by decide +kernel)⟩
theorem lw_p52 : lw_okq (⟨"SomebodyElseTonightModel", "wordFrom", "(II)I"⟩, 38) := ⟨⟨by decide +kernel, by decide +kernel⟩, List.mem_of_getElem? (i := 796) (by decide +kernel), List.mem_of_getElem? (i := 813) (by decide +kernel), List.mem_of_getElem? (i := 814) (by decide +kernel)⟩
theorem lw_p53 : lw_okq (⟨"SomebodyElseTonightModel", "eRead", "()Z"⟩, 38) := ⟨⟨by decide +kernel, by decide +kernel⟩, List.mem_of_getElem? (i := 796) (by decide +kernel), List.mem_of_getElem? (i := 817) (by decide +kernel), List.mem_of_getElem? (i := 818) (by decide +kernel)⟩
theorem lw_p54 : lw_okq (⟨"SomebodyElseTonightModel", "puts", "(I)V"⟩, 38) := ⟨⟨by decide +kernel, by decide +kernel⟩, List.mem_of_getElem? (i := 796) (by decide +kernel), List.mem_of_getElem? (i := 822) (by decide +kernel), List.mem_of_getElem? (i := 823) (by decide +kernel)⟩
theorem lw_p55 : lw_okq (⟨"SomebodyElseTonightModel", "unwinds", "(I)V"⟩, 38) := ⟨⟨by decide +kernel, by decide +kernel⟩, List.mem_of_getElem? (i := 796) (by decide +kernel), List.mem_of_getElem? (i := 826) (by decide +kernel), List.mem_of_getElem? (i := 827) (by decide +kernel)⟩
theorem lw_p56 : lw_okq (⟨"SomebodyElseTonightModel", "opensOne", "(I)Z"⟩, 38) := ⟨⟨by decide +kernel, by decide +kernel⟩, List.mem_of_getElem? (i := 796) (by decide +kernel), List.mem_of_getElem? (i := 833) (by decide +kernel), List.mem_of_getElem? (i := 834) (by decide +kernel)⟩
theorem lw_p57 : lw_okq (⟨"SomebodyElseTonightModel", "holds", "(I)V"⟩, 38) := ⟨⟨by decide +kernel, by decide +kernel⟩, List.mem_of_getElem? (i := 796) (by decide +kernel), List.mem_of_getElem? (i := 837) (by decide +kernel), List.mem_of_getElem? (i := 838) (by decide +kernel)⟩
theorem lw_p58 : lw_okq (⟨"SomebodyElseTonightModel", "signOf", "()I"⟩, 38) := ⟨⟨by decide +kernel, by decide +kernel⟩, List.mem_of_getElem? (i := 796) (by decide +kernel), List.mem_of_getElem? (i := 841) (by decide +kernel), List.mem_of_getElem? (i := 842) (by decide +kernel)⟩
theorem lw_p59 : lw_okq (⟨"SomebodyElseTonightModel", "between", "(I)Z"⟩, 38) := ⟨⟨by decide +kernel, by decide +kernel⟩, List.mem_of_getElem? (i := 796) (by decide +kernel), List.mem_of_getElem? (i := 845) (by decide +kernel), List.mem_of_getElem? (i := 846) (by decide +kernel)⟩
theorem lw_p60 : lw_okq (⟨"SomebodyElseTonightModel", "arePair", "(I)Z"⟩, 38) := ⟨⟨by decide +kernel, by decide +kernel⟩, List.mem_of_getElem? (i := 796) (by decide +kernel), List.mem_of_getElem? (i := 984) (by decide +kernel), List.mem_of_getElem? (i := 985) (by decide +kernel)⟩
theorem lw_p61 : lw_okq (⟨"SomebodyElseTonightModel", "isGuest", "(I)Z"⟩, 38) := ⟨⟨by decide +kernel, by decide +kernel⟩, List.mem_of_getElem? (i := 796) (by decide +kernel), List.mem_of_getElem? (i := 988) (by decide +kernel), List.mem_of_getElem? (i := 989) (by decide +kernel)⟩
theorem lw_p62 : lw_okq (⟨"SomebodyElseTonightModel", "asksOf", "(IIII)I"⟩, 38) := ⟨⟨by decide +kernel, by decide +kernel⟩, List.mem_of_getElem? (i := 796) (by decide +kernel), List.mem_of_getElem? (i := 995) (by decide +kernel), List.mem_of_getElem? (i := 996) (by decide +kernel)⟩
theorem lw_p63 : lw_okq (⟨"SomebodyElseTonightModel", "apartOf", "(II)I"⟩, 38) := ⟨⟨by decide +kernel, by decide +kernel⟩, List.mem_of_getElem? (i := 796) (by decide +kernel), List.mem_of_getElem? (i := 999) (by decide +kernel), List.mem_of_getElem? (i := 1000) (by decide +kernel)⟩
def lw_privs_4 : List (MethodName × Nat) := [(⟨"SomebodyElseTonight$Draws", "byLots", "(I)V"⟩, 6), (⟨"SomebodyElseTonight$Draws", "selves", "()I"⟩, 6), (⟨"SomebodyElseTonight$Club", "become", "(LSomebodyElseTonight$Club;)V"⟩, 9), (⟨"SomebodyElseTonightModel", "goesNext", "()V"⟩, 38), (⟨"SomebodyElseTonightModel", "wordFrom", "(II)I"⟩, 38), (⟨"SomebodyElseTonightModel", "eRead", "()Z"⟩, 38), (⟨"SomebodyElseTonightModel", "puts", "(I)V"⟩, 38), (⟨"SomebodyElseTonightModel", "unwinds", "(I)V"⟩, 38), (⟨"SomebodyElseTonightModel", "opensOne", "(I)Z"⟩, 38), (⟨"SomebodyElseTonightModel", "holds", "(I)V"⟩, 38), (⟨"SomebodyElseTonightModel", "signOf", "()I"⟩, 38), (⟨"SomebodyElseTonightModel", "between", "(I)Z"⟩, 38), (⟨"SomebodyElseTonightModel", "arePair", "(I)Z"⟩, 38), (⟨"SomebodyElseTonightModel", "isGuest", "(I)Z"⟩, 38), (⟨"SomebodyElseTonightModel", "asksOf", "(IIII)I"⟩, 38), (⟨"SomebodyElseTonightModel", "apartOf", "(II)I"⟩, 38)]
theorem lw_r4 : ∀ q ∈ lw_privs_4, lw_okq q := List.forall_mem_cons.mpr ⟨lw_p48, List.forall_mem_cons.mpr ⟨lw_p49, List.forall_mem_cons.mpr ⟨lw_p50, List.forall_mem_cons.mpr ⟨lw_p51, List.forall_mem_cons.mpr ⟨lw_p52, List.forall_mem_cons.mpr ⟨lw_p53, List.forall_mem_cons.mpr ⟨lw_p54, List.forall_mem_cons.mpr ⟨lw_p55, List.forall_mem_cons.mpr ⟨lw_p56, List.forall_mem_cons.mpr ⟨lw_p57, List.forall_mem_cons.mpr ⟨lw_p58, List.forall_mem_cons.mpr ⟨lw_p59, List.forall_mem_cons.mpr ⟨lw_p60, List.forall_mem_cons.mpr ⟨lw_p61, List.forall_mem_cons.mpr ⟨lw_p62, List.forall_mem_cons.mpr ⟨lw_p63, fun _ h => absurd h List.not_mem_nil⟩⟩⟩⟩⟩⟩⟩⟩⟩⟩⟩⟩⟩⟩⟩⟩
theorem lw_p64 : lw_okq (⟨"SomebodyElseTonightModel", "says", "(I)I"⟩, 38) := ⟨⟨by decide +kernel, by decide +kernel⟩, List.mem_of_getElem? (i := 796) (by decide +kernel), List.mem_of_getElem? (i := 1006) (by decide +kernel), List.mem_of_getElem? (i := 1007) (by decide +kernel)⟩
theorem lw_p65 : lw_okq (⟨"SomebodyElseTonightModel", "passesOf", "(I)I"⟩, 38) := ⟨⟨by decide +kernel, by decide +kernel⟩, List.mem_of_getElem? (i := 796) (by decide +kernel), List.mem_of_getElem? (i := 1024) (by decide +kernel), List.mem_of_getElem? (i := 1025) (by decide +kernel)⟩
theorem lw_p66 : lw_okq (⟨"SomebodyElseTonightModel", "wellOf", "(III)I"⟩, 38) := ⟨⟨by decide +kernel, by decide +kernel⟩, List.mem_of_getElem? (i := 796) (by decide +kernel), List.mem_of_getElem? (i := 1032) (by decide +kernel), List.mem_of_getElem? (i := 1033) (by decide +kernel)⟩
theorem lw_p67 : lw_okq (⟨"SomebodyElseTonightModel", "playsOf", "(I)I"⟩, 38) := ⟨⟨by decide +kernel, by decide +kernel⟩, List.mem_of_getElem? (i := 796) (by decide +kernel), List.mem_of_getElem? (i := 1044) (by decide +kernel), List.mem_of_getElem? (i := 1045) (by decide +kernel)⟩
theorem lw_p68 : lw_okq (⟨"SomebodyElseTonightModel", "doesAs", "(III)I"⟩, 38) := ⟨⟨by decide +kernel, by decide +kernel⟩, List.mem_of_getElem? (i := 796) (by decide +kernel), List.mem_of_getElem? (i := 1048) (by decide +kernel), List.mem_of_getElem? (i := 1049) (by decide +kernel)⟩
theorem lw_p69 : lw_okq (⟨"SomebodyElseTonightModel", "knownOf", "(I)I"⟩, 38) := ⟨⟨by decide +kernel, by decide +kernel⟩, List.mem_of_getElem? (i := 796) (by decide +kernel), List.mem_of_getElem? (i := 1060) (by decide +kernel), List.mem_of_getElem? (i := 1061) (by decide +kernel)⟩
theorem lw_p70 : lw_okq (⟨"SomebodyElseTonightModel", "goes", "()V"⟩, 38) := ⟨⟨by decide +kernel, by decide +kernel⟩, List.mem_of_getElem? (i := 796) (by decide +kernel), List.mem_of_getElem? (i := 1068) (by decide +kernel), List.mem_of_getElem? (i := 1069) (by decide +kernel)⟩
theorem lw_p71 : lw_okq (⟨"SomebodyElseTonightModel", "pays", "(III)V"⟩, 38) := ⟨⟨by decide +kernel, by decide +kernel⟩, List.mem_of_getElem? (i := 796) (by decide +kernel), List.mem_of_getElem? (i := 1079) (by decide +kernel), List.mem_of_getElem? (i := 1080) (by decide +kernel)⟩
theorem lw_p72 : lw_okq (⟨"SomebodyElseTonightModel", "mayOf", "(II)I"⟩, 38) := ⟨⟨by decide +kernel, by decide +kernel⟩, List.mem_of_getElem? (i := 796) (by decide +kernel), List.mem_of_getElem? (i := 1087) (by decide +kernel), List.mem_of_getElem? (i := 1088) (by decide +kernel)⟩
theorem lw_p73 : lw_okq (⟨"SomebodyElseTonightModel", "fitMany", "(I)I"⟩, 38) := ⟨⟨by decide +kernel, by decide +kernel⟩, List.mem_of_getElem? (i := 796) (by decide +kernel), List.mem_of_getElem? (i := 1095) (by decide +kernel), List.mem_of_getElem? (i := 1096) (by decide +kernel)⟩
theorem lw_p74 : lw_okq (⟨"SomebodyElseTonightModel", "numbersAll", "()I"⟩, 38) := ⟨⟨by decide +kernel, by decide +kernel⟩, List.mem_of_getElem? (i := 796) (by decide +kernel), List.mem_of_getElem? (i := 1099) (by decide +kernel), List.mem_of_getElem? (i := 1100) (by decide +kernel)⟩
theorem lw_p75 : lw_okq (⟨"SomebodyElseTonightModel", "tells", "(I)Z"⟩, 38) := ⟨⟨by decide +kernel, by decide +kernel⟩, List.mem_of_getElem? (i := 796) (by decide +kernel), List.mem_of_getElem? (i := 1103) (by decide +kernel), List.mem_of_getElem? (i := 1104) (by decide +kernel)⟩
theorem lw_p76 : lw_okq (⟨"SomebodyElseTonightModel", "digitsNow", "()I"⟩, 38) := ⟨⟨by decide +kernel, by decide +kernel⟩, List.mem_of_getElem? (i := 796) (by decide +kernel), List.mem_of_getElem? (i := 1107) (by decide +kernel), List.mem_of_getElem? (i := 1108) (by decide +kernel)⟩
theorem lw_p77 : lw_okq (⟨"SomebodyElseTonightModel", "isAllowed", "()Z"⟩, 38) := ⟨⟨by decide +kernel, by decide +kernel⟩, List.mem_of_getElem? (i := 796) (by decide +kernel), List.mem_of_getElem? (i := 1123) (by decide +kernel), List.mem_of_getElem? (i := 1124) (by decide +kernel)⟩
theorem lw_p78 : lw_okq (⟨"SomebodyElseTonightModel", "plays", "()V"⟩, 38) := ⟨⟨by decide +kernel, by decide +kernel⟩, List.mem_of_getElem? (i := 796) (by decide +kernel), List.mem_of_getElem? (i := 1127) (by decide +kernel), List.mem_of_getElem? (i := 1128) (by decide +kernel)⟩
theorem lw_p79 : lw_okq (⟨"SomebodyElseTonightModel", "chainOf", "(II)I"⟩, 38) := ⟨⟨by decide +kernel, by decide +kernel⟩, List.mem_of_getElem? (i := 796) (by decide +kernel), List.mem_of_getElem? (i := 1135) (by decide +kernel), List.mem_of_getElem? (i := 1136) (by decide +kernel)⟩
def lw_privs_5 : List (MethodName × Nat) := [(⟨"SomebodyElseTonightModel", "says", "(I)I"⟩, 38), (⟨"SomebodyElseTonightModel", "passesOf", "(I)I"⟩, 38), (⟨"SomebodyElseTonightModel", "wellOf", "(III)I"⟩, 38), (⟨"SomebodyElseTonightModel", "playsOf", "(I)I"⟩, 38), (⟨"SomebodyElseTonightModel", "doesAs", "(III)I"⟩, 38), (⟨"SomebodyElseTonightModel", "knownOf", "(I)I"⟩, 38), (⟨"SomebodyElseTonightModel", "goes", "()V"⟩, 38), (⟨"SomebodyElseTonightModel", "pays", "(III)V"⟩, 38), (⟨"SomebodyElseTonightModel", "mayOf", "(II)I"⟩, 38), (⟨"SomebodyElseTonightModel", "fitMany", "(I)I"⟩, 38), (⟨"SomebodyElseTonightModel", "numbersAll", "()I"⟩, 38), (⟨"SomebodyElseTonightModel", "tells", "(I)Z"⟩, 38), (⟨"SomebodyElseTonightModel", "digitsNow", "()I"⟩, 38), (⟨"SomebodyElseTonightModel", "isAllowed", "()Z"⟩, 38), (⟨"SomebodyElseTonightModel", "plays", "()V"⟩, 38), (⟨"SomebodyElseTonightModel", "chainOf", "(II)I"⟩, 38)]
theorem lw_r5 : ∀ q ∈ lw_privs_5, lw_okq q := List.forall_mem_cons.mpr ⟨lw_p64, List.forall_mem_cons.mpr ⟨lw_p65, List.forall_mem_cons.mpr ⟨lw_p66, List.forall_mem_cons.mpr ⟨lw_p67, List.forall_mem_cons.mpr ⟨lw_p68, List.forall_mem_cons.mpr ⟨lw_p69, List.forall_mem_cons.mpr ⟨lw_p70, List.forall_mem_cons.mpr ⟨lw_p71, List.forall_mem_cons.mpr ⟨lw_p72, List.forall_mem_cons.mpr ⟨lw_p73, List.forall_mem_cons.mpr ⟨lw_p74, List.forall_mem_cons.mpr ⟨lw_p75, List.forall_mem_cons.mpr ⟨lw_p76, List.forall_mem_cons.mpr ⟨lw_p77, List.forall_mem_cons.mpr ⟨lw_p78, List.forall_mem_cons.mpr ⟨lw_p79, fun _ h => absurd h List.not_mem_nil⟩⟩⟩⟩⟩⟩⟩⟩⟩⟩⟩⟩⟩⟩⟩⟩
theorem lw_p80 : lw_okq (⟨"SomebodyElseTonightModel", "otherwiseOn", "(I)I"⟩, 38) := ⟨⟨by decide +kernel, by decide +kernel⟩, List.mem_of_getElem? (i := 796) (by decide +kernel), List.mem_of_getElem? (i := 1151) (by decide +kernel), List.mem_of_getElem? (i := 1152) (by decide +kernel)⟩
theorem lw_p81 : lw_okq (⟨"SomebodyElseTonightModel", "toldWrong", "(II)I"⟩, 38) := ⟨⟨by decide +kernel, by decide +kernel⟩, List.mem_of_getElem? (i := 796) (by decide +kernel), List.mem_of_getElem? (i := 1159) (by decide +kernel), List.mem_of_getElem? (i := 1160) (by decide +kernel)⟩
theorem lw_p82 : lw_okq (⟨"SomebodyElseTonightModel", "sheetWrong", "(I)I"⟩, 38) := ⟨⟨by decide +kernel, by decide +kernel⟩, List.mem_of_getElem? (i := 796) (by decide +kernel), List.mem_of_getElem? (i := 1163) (by decide +kernel), List.mem_of_getElem? (i := 1164) (by decide +kernel)⟩
theorem lw_p83 : lw_okq (⟨"SomebodyElseTonightModel", "unlike", "(II)I"⟩, 38) := ⟨⟨by decide +kernel, by decide +kernel⟩, List.mem_of_getElem? (i := 796) (by decide +kernel), List.mem_of_getElem? (i := 1167) (by decide +kernel), List.mem_of_getElem? (i := 1168) (by decide +kernel)⟩
theorem lw_p84 : lw_okq (⟨"SomebodyElseTonightModel", "drawsBy", "(I)V"⟩, 38) := ⟨⟨by decide +kernel, by decide +kernel⟩, List.mem_of_getElem? (i := 796) (by decide +kernel), List.mem_of_getElem? (i := 1196) (by decide +kernel), List.mem_of_getElem? (i := 1197) (by decide +kernel)⟩
theorem lw_p85 : lw_okq (⟨"SomebodyElseTonightModel", "themselves", "()I"⟩, 38) := ⟨⟨by decide +kernel, by decide +kernel⟩, List.mem_of_getElem? (i := 796) (by decide +kernel), List.mem_of_getElem? (i := 1202) (by decide +kernel), List.mem_of_getElem? (i := 1203) (by decide +kernel)⟩
def lw_privs_6 : List (MethodName × Nat) := [(⟨"SomebodyElseTonightModel", "otherwiseOn", "(I)I"⟩, 38), (⟨"SomebodyElseTonightModel", "toldWrong", "(II)I"⟩, 38), (⟨"SomebodyElseTonightModel", "sheetWrong", "(I)I"⟩, 38), (⟨"SomebodyElseTonightModel", "unlike", "(II)I"⟩, 38), (⟨"SomebodyElseTonightModel", "drawsBy", "(I)V"⟩, 38), (⟨"SomebodyElseTonightModel", "themselves", "()I"⟩, 38)]
theorem lw_r6 : ∀ q ∈ lw_privs_6, lw_okq q := List.forall_mem_cons.mpr ⟨lw_p80, List.forall_mem_cons.mpr ⟨lw_p81, List.forall_mem_cons.mpr ⟨lw_p82, List.forall_mem_cons.mpr ⟨lw_p83, List.forall_mem_cons.mpr ⟨lw_p84, List.forall_mem_cons.mpr ⟨lw_p85, fun _ h => absurd h List.not_mem_nil⟩⟩⟩⟩⟩⟩
def lw_privs : List (MethodName × Nat) := lw_privs_1 ++ (lw_privs_2 ++ (lw_privs_3 ++ (lw_privs_4 ++ (lw_privs_5 ++ (lw_privs_6)))))
def lw_tbl : List Cond := k2_sels lw_privs ++ tables_1
theorem lw_privs_ok : ∀ q ∈ lw_privs, lw_okq q := by
  show ∀ q ∈ lw_privs_1 ++ (lw_privs_2 ++ (lw_privs_3 ++ (lw_privs_4 ++ (lw_privs_5 ++ (lw_privs_6))))), lw_okq q
  exact List.forall_mem_append.mpr ⟨lw_r1, List.forall_mem_append.mpr ⟨lw_r2, List.forall_mem_append.mpr ⟨lw_r3, List.forall_mem_append.mpr ⟨lw_r4, List.forall_mem_append.mpr ⟨lw_r5, lw_r6⟩⟩⟩⟩⟩
def RX0 : String := "SomebodyElseTonight$Asked"
def TX0 : u_T := fun k => match k with
  | 0 => ("SomebodyElseTonight$Asked", "more", "I", false)
  | 1 => ("SomebodyElseTonight$Asked", "apart", "I", false)
  | 2 => ("SomebodyElseTonight$Asked", "matter", "I", false)
  | 3 => ("SomebodyElseTonight$Asked", "night", "I", false)
  | 4 => ("SomebodyElseTonight$Asked", "often", "I", false)
  | 5 => ("SomebodyElseTonight$Asked", "purse", "I", false)
  | _ => ("SomebodyElseTonight$Asked", "stack", "[I", true)
def tyX0 : Nat → FieldType := fun k => match k with
  | 0 => .int
  | 1 => .int
  | 2 => .int
  | 3 => .int
  | 4 => .int
  | 5 => .int
  | _ => .array .int
abbrev wsX00 : List Cond := u_ws RX0 TX0 7
theorem nmX0 : ∀ a, a < 7 → ∀ b, b < 7 → a ≠ b → (TX0 a).2.1 ≠ (TX0 b).2.1 := by decide +kernel
theorem tyX0_ok : ∀ k, k < 7 → parseFieldDescriptor (TX0 k).2.2.1 = some (tyX0 k) := by decide +kernel
abbrev cX0_init : ByteArray := prog_2_method_1_code
def yX0_init : MethodName := ⟨RX0, "<init>", "()V"⟩
abbrev cX0_named : ByteArray := prog_2_method_2_code
def yX0_named : MethodName := ⟨RX0, "named", "(I)I"⟩
def RX1 : String := "SomebodyElseTonight$Club"
def TX1 : u_T := fun k => match k with
  | 0 => ("SomebodyElseTonight$Club", "size", "I", false)
  | 1 => ("SomebodyElseTonight$Club", "night", "I", false)
  | 2 => ("SomebodyElseTonight$Club", "law", "I", false)
  | 3 => ("SomebodyElseTonight$Club", "kind", "[I", true)
  | 4 => ("SomebodyElseTonight$Club", "more", "[I", true)
  | 5 => ("SomebodyElseTonight$Club", "manners", "[I", true)
  | 6 => ("SomebodyElseTonight$Club", "plays", "[I", true)
  | 7 => ("SomebodyElseTonight$Club", "purse", "[I", true)
  | _ => ("SomebodyElseTonight$Club", "often", "[I", true)
def tyX1 : Nat → FieldType := fun k => match k with
  | 0 => .int
  | 1 => .int
  | 2 => .int
  | 3 => .array .int
  | 4 => .array .int
  | 5 => .array .int
  | 6 => .array .int
  | 7 => .array .int
  | _ => .array .int
abbrev wsX10 : List Cond := u_ws RX1 TX1 9
theorem nmX1 : ∀ a, a < 9 → ∀ b, b < 9 → a ≠ b → (TX1 a).2.1 ≠ (TX1 b).2.1 := by decide +kernel
theorem tyX1_ok : ∀ k, k < 9 → parseFieldDescriptor (TX1 k).2.2.1 = some (tyX1 k) := by decide +kernel
abbrev cX1_init : ByteArray := prog_3_method_1_code
def yX1_init : MethodName := ⟨RX1, "<init>", "()V"⟩
abbrev cX1_has : ByteArray := prog_3_method_2_code
def yX1_has : MethodName := ⟨RX1, "has", "(I)Z"⟩
abbrev cX1_add : ByteArray := prog_3_method_3_code
def yX1_add : MethodName := ⟨RX1, "add", "(III)I"⟩
abbrev cX1_apart : ByteArray := prog_3_method_4_code
def yX1_apart : MethodName := ⟨RX1, "apart", "(II)I"⟩
abbrev cX1_behind : ByteArray := prog_3_method_5_code
def yX1_behind : MethodName := ⟨RX1, "behind", "(I)I"⟩
abbrev cX1_chained : ByteArray := prog_3_method_6_code
def yX1_chained : MethodName := ⟨RX1, "chained", "(II)I"⟩
abbrev cX1_pay : ByteArray := prog_3_method_7_code
def yX1_pay : MethodName := ⟨RX1, "pay", "(III)V"⟩
abbrev cX1_become : ByteArray := prog_3_method_8_code
def yX1_become : MethodName := ⟨RX1, "become", "(LSomebodyElseTonight$Club;)V"⟩
def RX2 : String := "SomebodyElseTonight$Draws"
def TX2 : u_T := fun k => match k with
  | 0 => ("SomebodyElseTonight$Draws", "stage", "LSomebodyElseTonight$Stage;", true)
  | 1 => ("SomebodyElseTonight$Draws", "club", "LSomebodyElseTonight$Club;", true)
  | 2 => ("SomebodyElseTonight$Draws", "table", "[I", true)
  | 3 => ("SomebodyElseTonight$Draws", "rest", "[I", true)
  | 4 => ("SomebodyElseTonight$Draws", "choices", "[I", true)
  | _ => ("SomebodyElseTonight$Draws", "draw", "[I", true)
def tyX2 : Nat → FieldType := fun k => match k with
  | 0 => .object "SomebodyElseTonight$Stage"
  | 1 => .object "SomebodyElseTonight$Club"
  | 2 => .array .int
  | 3 => .array .int
  | 4 => .array .int
  | _ => .array .int
abbrev wsX20 : List Cond := u_ws RX2 TX2 6
theorem nmX2 : ∀ a, a < 6 → ∀ b, b < 6 → a ≠ b → (TX2 a).2.1 ≠ (TX2 b).2.1 := by decide +kernel
theorem tyX2_ok : ∀ k, k < 6 → parseFieldDescriptor (TX2 k).2.2.1 = some (tyX2 k) := by decide +kernel
abbrev cX2_init : ByteArray := prog_4_method_1_code
def yX2_init : MethodName := ⟨RX2, "<init>", "()V"⟩
abbrev cX2_compare : ByteArray := prog_4_method_2_code
def yX2_compare : MethodName := ⟨RX2, "compare", "(I)V"⟩
abbrev cX2_compareAll : ByteArray := prog_4_method_3_code
def yX2_compareAll : MethodName := ⟨RX2, "compareAll", "()V"⟩
abbrev cX2_canBe : ByteArray := prog_4_method_4_code
def yX2_canBe : MethodName := ⟨RX2, "canBe", "(II)I"⟩
abbrev cX2_fitting : ByteArray := prog_4_method_5_code
def yX2_fitting : MethodName := ⟨RX2, "fitting", "(I)I"⟩
abbrev cX2_firstFitting : ByteArray := prog_4_method_6_code
def yX2_firstFitting : MethodName := ⟨RX2, "firstFitting", "()I"⟩
abbrev cX2_weigh : ByteArray := prog_4_method_7_code
def yX2_weigh : MethodName := ⟨RX2, "weigh", "(III)V"⟩
abbrev cX2_sumBy : ByteArray := prog_4_method_8_code
def yX2_sumBy : MethodName := ⟨RX2, "sumBy", "(III)I"⟩
abbrev cX2_leastSum : ByteArray := prog_4_method_9_code
def yX2_leastSum : MethodName := ⟨RX2, "leastSum", "()I"⟩
abbrev cX2_firstLeast : ByteArray := prog_4_method_10_code
def yX2_firstLeast : MethodName := ⟨RX2, "firstLeast", "()I"⟩
abbrev cX2_byLots : ByteArray := prog_4_method_11_code
def yX2_byLots : MethodName := ⟨RX2, "byLots", "(I)V"⟩
abbrev cX2_selves : ByteArray := prog_4_method_12_code
def yX2_selves : MethodName := ⟨RX2, "selves", "()I"⟩
abbrev cX2_digits : ByteArray := prog_4_method_13_code
def yX2_digits : MethodName := ⟨RX2, "digits", "()I"⟩
def RX3 : String := "SomebodyElseTonight$Reader"
def TX3 : u_T := fun k => match k with
  | 0 => ("SomebodyElseTonight$Reader", "tape", "[I", true)
  | 1 => ("SomebodyElseTonight$Reader", "size", "I", false)
  | 2 => ("SomebodyElseTonight$Reader", "steps", "[I", true)
  | 3 => ("SomebodyElseTonight$Reader", "stepCount", "I", false)
  | 4 => ("SomebodyElseTonight$Reader", "token", "I", false)
  | 5 => ("SomebodyElseTonight$Reader", "tokenFrom", "I", false)
  | 6 => ("SomebodyElseTonight$Reader", "tokenTo", "I", false)
  | _ => ("SomebodyElseTonight$Reader", "value", "I", false)
def tyX3 : Nat → FieldType := fun k => match k with
  | 0 => .array .int
  | 1 => .int
  | 2 => .array .int
  | 3 => .int
  | 4 => .int
  | 5 => .int
  | 6 => .int
  | _ => .int
abbrev wsX30 : List Cond := u_ws RX3 TX3 8
theorem nmX3 : ∀ a, a < 8 → ∀ b, b < 8 → a ≠ b → (TX3 a).2.1 ≠ (TX3 b).2.1 := by decide +kernel
theorem tyX3_ok : ∀ k, k < 8 → parseFieldDescriptor (TX3 k).2.2.1 = some (tyX3 k) := by decide +kernel
abbrev cX3_init : ByteArray := prog_5_method_1_code
def yX3_init : MethodName := ⟨RX3, "<init>", "()V"⟩
abbrev cX3_add : ByteArray := prog_5_method_2_code
def yX3_add : MethodName := ⟨RX3, "add", "(I)V"⟩
abbrev cX3_read : ByteArray := prog_5_method_3_code
def yX3_read : MethodName := ⟨RX3, "read", "()I"⟩
abbrev cX3_emit : ByteArray := prog_5_method_4_code
def yX3_emit : MethodName := ⟨RX3, "emit", "(I)V"⟩
abbrev cX3_take : ByteArray := prog_5_method_5_code
def yX3_take : MethodName := ⟨RX3, "take", "(I)Z"⟩
abbrev cX3_part : ByteArray := prog_5_method_6_code
def yX3_part : MethodName := ⟨RX3, "part", "(I)Z"⟩
abbrev cX3_either : ByteArray := prog_5_method_7_code
def yX3_either : MethodName := ⟨RX3, "either", "(I)Z"⟩
abbrev cX3_both : ByteArray := prog_5_method_8_code
def yX3_both : MethodName := ⟨RX3, "both", "(I)Z"⟩
abbrev cX3_negation : ByteArray := prog_5_method_9_code
def yX3_negation : MethodName := ⟨RX3, "negation", "(I)Z"⟩
abbrev cX3_sum : ByteArray := prog_5_method_10_code
def yX3_sum : MethodName := ⟨RX3, "sum", "(I)Z"⟩
abbrev cX3_product : ByteArray := prog_5_method_11_code
def yX3_product : MethodName := ⟨RX3, "product", "(I)Z"⟩
abbrev cX3_one : ByteArray := prog_5_method_12_code
def yX3_one : MethodName := ⟨RX3, "one", "(I)Z"⟩
abbrev cX3_advance : ByteArray := prog_5_method_13_code
def yX3_advance : MethodName := ⟨RX3, "advance", "()V"⟩
abbrev cX3_number : ByteArray := prog_5_method_14_code
def yX3_number : MethodName := ⟨RX3, "number", "()I"⟩
abbrev cX3_word : ByteArray := prog_5_method_15_code
def yX3_word : MethodName := ⟨RX3, "word", "()I"⟩
abbrev cX3_isWord : ByteArray := prog_5_method_16_code
def yX3_isWord : MethodName := ⟨RX3, "isWord", "(Ljava/lang/String;)Z"⟩
abbrev cX3_isBlank : ByteArray := prog_5_method_17_code
def yX3_isBlank : MethodName := ⟨RX3, "isBlank", "(I)Z"⟩
abbrev cX3_isLetter : ByteArray := prog_5_method_18_code
def yX3_isLetter : MethodName := ⟨RX3, "isLetter", "(I)Z"⟩
abbrev cX3_isDigit : ByteArray := prog_5_method_19_code
def yX3_isDigit : MethodName := ⟨RX3, "isDigit", "(I)Z"⟩
abbrev cX3_isSign : ByteArray := prog_5_method_20_code
def yX3_isSign : MethodName := ⟨RX3, "isSign", "(I)Z"⟩
def RX4 : String := "SomebodyElseTonight$Sheet"
def TX4 : u_T := fun k => match k with
  | 0 => ("SomebodyElseTonight$Sheet", "sort", "I", false)
  | 1 => ("SomebodyElseTonight$Sheet", "size", "I", false)
  | _ => ("SomebodyElseTonight$Sheet", "row", "[I", true)
def tyX4 : Nat → FieldType := fun k => match k with
  | 0 => .int
  | 1 => .int
  | _ => .array .int
abbrev wsX40 : List Cond := u_ws RX4 TX4 3
theorem nmX4 : ∀ a, a < 3 → ∀ b, b < 3 → a ≠ b → (TX4 a).2.1 ≠ (TX4 b).2.1 := by decide +kernel
theorem tyX4_ok : ∀ k, k < 3 → parseFieldDescriptor (TX4 k).2.2.1 = some (tyX4 k) := by decide +kernel
abbrev cX4_init : ByteArray := prog_6_method_1_code
def yX4_init : MethodName := ⟨RX4, "<init>", "()V"⟩
abbrev cX4_become : ByteArray := prog_6_method_2_code
def yX4_become : MethodName := ⟨RX4, "become", "(II)V"⟩
abbrev cX4_write : ByteArray := prog_6_method_3_code
def yX4_write : MethodName := ⟨RX4, "write", "(II)V"⟩
def RX5 : String := "SomebodyElseTonight$Stage"
def TX5 : u_T := fun k => match k with
  | 0 => ("SomebodyElseTonight$Stage", "club", "LSomebodyElseTonight$Club;", true)
  | 1 => ("SomebodyElseTonight$Stage", "first", "LSomebodyElseTonight$Text;", true)
  | 2 => ("SomebodyElseTonight$Stage", "texts", "[LSomebodyElseTonight$Text;", true)
  | 3 => ("SomebodyElseTonight$Stage", "textCount", "I", false)
  | _ => ("SomebodyElseTonight$Stage", "asked", "LSomebodyElseTonight$Asked;", true)
def tyX5 : Nat → FieldType := fun k => match k with
  | 0 => .object "SomebodyElseTonight$Club"
  | 1 => .object "SomebodyElseTonight$Text"
  | 2 => .array (.object "SomebodyElseTonight$Text")
  | 3 => .int
  | _ => .object "SomebodyElseTonight$Asked"
abbrev wsX50 : List Cond := u_ws RX5 TX5 5
theorem nmX5 : ∀ a, a < 5 → ∀ b, b < 5 → a ≠ b → (TX5 a).2.1 ≠ (TX5 b).2.1 := by decide +kernel
theorem tyX5_ok : ∀ k, k < 5 → parseFieldDescriptor (TX5 k).2.2.1 = some (tyX5 k) := by decide +kernel
abbrev cX5_init : ByteArray := prog_7_method_1_code
def yX5_init : MethodName := ⟨RX5, "<init>", "()V"⟩
abbrev cX5_addText : ByteArray := prog_7_method_2_code
def yX5_addText : MethodName := ⟨RX5, "addText", "(LSomebodyElseTonight$Text;)I"⟩
abbrev cX5_law : ByteArray := prog_7_method_3_code
def yX5_law : MethodName := ⟨RX5, "law", "()LSomebodyElseTonight$Text;"⟩
abbrev cX5_asking : ByteArray := prog_7_method_4_code
def yX5_asking : MethodName := ⟨RX5, "asking", "(III)LSomebodyElseTonight$Asked;"⟩
abbrev cX5_well : ByteArray := prog_7_method_5_code
def yX5_well : MethodName := ⟨RX5, "well", "(III)I"⟩
abbrev cX5_passesFrom : ByteArray := prog_7_method_6_code
def yX5_passesFrom : MethodName := ⟨RX5, "passesFrom", "(I)I"⟩
abbrev cX5_doing : ByteArray := prog_7_method_7_code
def yX5_doing : MethodName := ⟨RX5, "doing", "(III)I"⟩
abbrev cX5_knownOn : ByteArray := prog_7_method_8_code
def yX5_knownOn : MethodName := ⟨RX5, "knownOn", "(II)I"⟩
abbrev cX5_otherwise : ByteArray := prog_7_method_9_code
def yX5_otherwise : MethodName := ⟨RX5, "otherwise", "(I)I"⟩
abbrev cX5_tally : ByteArray := prog_7_method_10_code
def yX5_tally : MethodName := ⟨RX5, "tally", "(I[I)I"⟩
def RX6 : String := "SomebodyElseTonight$Text"
def TX6 : u_T := fun k => match k with
  | 0 => ("SomebodyElseTonight$Text", "steps", "[I", true)
  | 1 => ("SomebodyElseTonight$Text", "costsFrom", "I", true)
  | _ => ("SomebodyElseTonight$Text", "owesFrom", "I", true)
def tyX6 : Nat → FieldType := fun k => match k with
  | 0 => .array .int
  | 1 => .int
  | _ => .int
abbrev wsX60 : List Cond := u_ws RX6 TX6 3
theorem nmX6 : ∀ a, a < 3 → ∀ b, b < 3 → a ≠ b → (TX6 a).2.1 ≠ (TX6 b).2.1 := by decide +kernel
theorem tyX6_ok : ∀ k, k < 3 → parseFieldDescriptor (TX6 k).2.2.1 = some (tyX6 k) := by decide +kernel
abbrev cX6_init : ByteArray := prog_8_method_1_code
def yX6_init : MethodName := ⟨RX6, "<init>", "([II)V"⟩
abbrev cX6_says : ByteArray := prog_8_method_2_code
def yX6_says : MethodName := ⟨RX6, "says", "(ILSomebodyElseTonight$Asked;)I"⟩
abbrev cX6_ofBoth : ByteArray := prog_8_method_3_code
def yX6_ofBoth : MethodName := ⟨RX6, "ofBoth", "(III)I"⟩
def RX7 : String := "SomebodyElseTonight"
def TX7 : u_T := fun k => match k with
  | 0 => ("SomebodyElseTonight", "draws", "LSomebodyElseTonight$Draws;", true)
  | 1 => ("SomebodyElseTonight", "stage", "LSomebodyElseTonight$Stage;", true)
  | 2 => ("SomebodyElseTonight", "club", "LSomebodyElseTonight$Club;", true)
  | 3 => ("SomebodyElseTonight", "kept", "LSomebodyElseTonight$Club;", true)
  | 4 => ("SomebodyElseTonight", "isKept", "Z", false)
  | 5 => ("SomebodyElseTonight", "reader", "LSomebodyElseTonight$Reader;", true)
  | _ => ("SomebodyElseTonight", "sheets", "[LSomebodyElseTonight$Sheet;", true)
def tyX7 : Nat → FieldType := fun k => match k with
  | 0 => .object "SomebodyElseTonight$Draws"
  | 1 => .object "SomebodyElseTonight$Stage"
  | 2 => .object "SomebodyElseTonight$Club"
  | 3 => .object "SomebodyElseTonight$Club"
  | 4 => .boolean
  | 5 => .object "SomebodyElseTonight$Reader"
  | _ => .array (.object "SomebodyElseTonight$Sheet")
abbrev wsX70 : List Cond := u_ws RX7 TX7 7
theorem nmX7 : ∀ a, a < 7 → ∀ b, b < 7 → a ≠ b → (TX7 a).2.1 ≠ (TX7 b).2.1 := by decide +kernel
theorem tyX7_ok : ∀ k, k < 7 → parseFieldDescriptor (TX7 k).2.2.1 = some (tyX7 k) := by decide +kernel
abbrev cX7_init : ByteArray := prog_1_method_1_code
def yX7_init : MethodName := ⟨RX7, "<init>", "()V"⟩
abbrev cX7_count : ByteArray := prog_1_method_2_code
def yX7_count : MethodName := ⟨RX7, "count", "(I)I"⟩
abbrev cX7_feed : ByteArray := prog_1_method_3_code
def yX7_feed : MethodName := ⟨RX7, "feed", "(IIIIII)I"⟩
abbrev cX7_text : ByteArray := prog_1_method_4_code
def yX7_text : MethodName := ⟨RX7, "text", "()I"⟩
abbrev cX7_force : ByteArray := prog_1_method_5_code
def yX7_force : MethodName := ⟨RX7, "force", "(I)I"⟩
abbrev cX7_asks : ByteArray := prog_1_method_6_code
def yX7_asks : MethodName := ⟨RX7, "asks", "(III)I"⟩
abbrev cX7_guest : ByteArray := prog_1_method_7_code
def yX7_guest : MethodName := ⟨RX7, "guest", "(II)I"⟩
abbrev cX7_told : ByteArray := prog_1_method_8_code
def yX7_told : MethodName := ⟨RX7, "told", "(II)I"⟩
abbrev cX7_pair : ByteArray := prog_1_method_9_code
def yX7_pair : MethodName := ⟨RX7, "pair", "(II)I"⟩
abbrev cX7_set : ByteArray := prog_1_method_10_code
def yX7_set : MethodName := ⟨RX7, "set", "(III)I"⟩
abbrev cX7_does : ByteArray := prog_1_method_11_code
def yX7_does : MethodName := ⟨RX7, "does", "(II)I"⟩
abbrev cX7_would : ByteArray := prog_1_method_12_code
def yX7_would : MethodName := ⟨RX7, "would", "(II)I"⟩
abbrev cX7_known : ByteArray := prog_1_method_13_code
def yX7_known : MethodName := ⟨RX7, "known", "(I)I"⟩
abbrev cX7_evening : ByteArray := prog_1_method_14_code
def yX7_evening : MethodName := ⟨RX7, "evening", "(I)I"⟩
abbrev cX7_live : ByteArray := prog_1_method_15_code
def yX7_live : MethodName := ⟨RX7, "live", "()I"⟩
abbrev cX7_may : ByteArray := prog_1_method_16_code
def yX7_may : MethodName := ⟨RX7, "may", "(II)I"⟩
abbrev cX7_fits : ByteArray := prog_1_method_17_code
def yX7_fits : MethodName := ⟨RX7, "fits", "(II)I"⟩
abbrev cX7_next : ByteArray := prog_1_method_18_code
def yX7_next : MethodName := ⟨RX7, "next", "(II)I"⟩
abbrev cX7_fewest : ByteArray := prog_1_method_19_code
def yX7_fewest : MethodName := ⟨RX7, "fewest", "()I"⟩
abbrev cX7_best : ByteArray := prog_1_method_20_code
def yX7_best : MethodName := ⟨RX7, "best", "(II)I"⟩
abbrev cX7_chain : ByteArray := prog_1_method_21_code
def yX7_chain : MethodName := ⟨RX7, "chain", "(II)I"⟩
abbrev cX7_ring : ByteArray := prog_1_method_22_code
def yX7_ring : MethodName := ⟨RX7, "ring", "(I)I"⟩
abbrev cX7_asIf : ByteArray := prog_1_method_23_code
def yX7_asIf : MethodName := ⟨RX7, "asIf", "(III)I"⟩
abbrev cX7_learns : ByteArray := prog_1_method_24_code
def yX7_learns : MethodName := ⟨RX7, "learns", "(II)I"⟩
abbrev cX7_judge : ByteArray := prog_1_method_25_code
def yX7_judge : MethodName := ⟨RX7, "judge", "(II)I"⟩
abbrev cX7_kinds : ByteArray := prog_1_method_26_code
def yX7_kinds : MethodName := ⟨RX7, "kinds", "(III)I"⟩
abbrev cX7_manners : ByteArray := prog_1_method_27_code
def yX7_manners : MethodName := ⟨RX7, "manners", "(III)I"⟩
abbrev cX7_whose : ByteArray := prog_1_method_28_code
def yX7_whose : MethodName := ⟨RX7, "whose", "(I)I"⟩
abbrev cX7_laws : ByteArray := prog_1_method_29_code
def yX7_laws : MethodName := ⟨RX7, "laws", "(II)I"⟩
abbrev cX7_film : ByteArray := prog_1_method_30_code
def yX7_film : MethodName := ⟨RX7, "film", "(II)I"⟩
abbrev cX7_drawn : ByteArray := prog_1_method_31_code
def yX7_drawn : MethodName := ⟨RX7, "drawn", "(II)I"⟩
abbrev cX7_lots : ByteArray := prog_1_method_32_code
def yX7_lots : MethodName := ⟨RX7, "lots", "(I)I"⟩
abbrev cX7_odds : ByteArray := prog_1_method_33_code
def yX7_odds : MethodName := ⟨RX7, "odds", "(III)J"⟩
abbrev cX7_chance : ByteArray := prog_1_method_34_code
def yX7_chance : MethodName := ⟨RX7, "chance", "(II)J"⟩
abbrev cX7_image : ByteArray := prog_1_method_35_code
def yX7_image : MethodName := ⟨RX7, "image", "()I"⟩
abbrev cX7_back : ByteArray := prog_1_method_36_code
def yX7_back : MethodName := ⟨RX7, "back", "()I"⟩
abbrev cX7_sheet : ByteArray := prog_1_method_37_code
def yX7_sheet : MethodName := ⟨RX7, "sheet", "(III)I"⟩
abbrev cX7_cell : ByteArray := prog_1_method_38_code
def yX7_cell : MethodName := ⟨RX7, "cell", "(III)I"⟩
abbrev cX7_copy : ByteArray := prog_1_method_39_code
def yX7_copy : MethodName := ⟨RX7, "copy", "(IIIII)I"⟩
abbrev cX7_guestsBy : ByteArray := prog_1_method_40_code
def yX7_guestsBy : MethodName := ⟨RX7, "guestsBy", "(IIII)I"⟩
abbrev cX7_taken : ByteArray := prog_1_method_41_code
def yX7_taken : MethodName := ⟨RX7, "taken", "(II)I"⟩
abbrev cX7_at : ByteArray := prog_1_method_42_code
def yX7_at : MethodName := ⟨RX7, "at", "([II)I"⟩
abbrev cX7_put : ByteArray := prog_1_method_43_code
def yX7_put : MethodName := ⟨RX7, "put", "([III)V"⟩
abbrev cX7_place : ByteArray := prog_1_method_44_code
def yX7_place : MethodName := ⟨RX7, "place", "(II)I"⟩
abbrev cX7_bounded : ByteArray := prog_1_method_45_code
def yX7_bounded : MethodName := ⟨RX7, "bounded", "(II)I"⟩
abbrev cX7_answerOf : ByteArray := prog_1_method_46_code
def yX7_answerOf : MethodName := ⟨RX7, "answerOf", "(II)I"⟩
abbrev cX7_isByte : ByteArray := prog_1_method_47_code
def yX7_isByte : MethodName := ⟨RX7, "isByte", "(I)Z"⟩
abbrev cX7_isMatter : ByteArray := prog_1_method_48_code
def yX7_isMatter : MethodName := ⟨RX7, "isMatter", "(I)Z"⟩
abbrev cX7_areMatters : ByteArray := prog_1_method_49_code
def yX7_areMatters : MethodName := ⟨RX7, "areMatters", "(I)Z"⟩
abbrev cX7_isSeed : ByteArray := prog_1_method_50_code
def yX7_isSeed : MethodName := ⟨RX7, "isSeed", "(I)Z"⟩
abbrev cX7_isOneOf : ByteArray := prog_1_method_51_code
def yX7_isOneOf : MethodName := ⟨RX7, "isOneOf", "(II)Z"⟩
abbrev cX7_lowest : ByteArray := prog_1_method_52_code
def yX7_lowest : MethodName := ⟨RX7, "lowest", "(III)J"⟩
abbrev cX7_arePair : ByteArray := prog_1_method_53_code
def yX7_arePair : MethodName := ⟨RX7, "arePair", "(I)Z"⟩
abbrev cX7_sheetAt : ByteArray := prog_1_method_54_code
def yX7_sheetAt : MethodName := ⟨RX7, "sheetAt", "(I)LSomebodyElseTonight$Sheet;"⟩
abbrev cX7_refusalOfTold : ByteArray := prog_1_method_55_code
def yX7_refusalOfTold : MethodName := ⟨RX7, "refusalOfTold", "(I)I"⟩
abbrev cX7_firstOtherwise : ByteArray := prog_1_method_56_code
def yX7_firstOtherwise : MethodName := ⟨RX7, "firstOtherwise", "(II)I"⟩
def RX8 : String := "SomebodyElseTonightModel"
def TX8 : u_T := fun k => match k with
  | 0 => ("SomebodyElseTonightModel", "guests", "I", false)
  | 1 => ("SomebodyElseTonightModel", "kind", "[I", true)
  | 2 => ("SomebodyElseTonightModel", "moreOf", "[I", true)
  | 3 => ("SomebodyElseTonightModel", "rows", "[I", true)
  | 4 => ("SomebodyElseTonightModel", "oftens", "[I", true)
  | 5 => ("SomebodyElseTonightModel", "night0", "I", false)
  | 6 => ("SomebodyElseTonightModel", "tape", "[I", true)
  | 7 => ("SomebodyElseTonightModel", "taped", "I", false)
  | 8 => ("SomebodyElseTonightModel", "codes", "[I", true)
  | 9 => ("SomebodyElseTonightModel", "starts", "[I", true)
  | 10 => ("SomebodyElseTonightModel", "texts", "I", false)
  | 11 => ("SomebodyElseTonightModel", "rule", "I", false)
  | 12 => ("SomebodyElseTonightModel", "hasImage", "Z", false)
  | 13 => ("SomebodyElseTonightModel", "imageGuests", "I", false)
  | 14 => ("SomebodyElseTonightModel", "imageNight", "I", false)
  | 15 => ("SomebodyElseTonightModel", "imageRule", "I", false)
  | 16 => ("SomebodyElseTonightModel", "imageRows", "[I", true)
  | 17 => ("SomebodyElseTonightModel", "sheetSort", "[I", true)
  | 18 => ("SomebodyElseTonightModel", "sheetSize", "[I", true)
  | 19 => ("SomebodyElseTonightModel", "cells", "[I", true)
  | 20 => ("SomebodyElseTonightModel", "law", "[I", true)
  | 21 => ("SomebodyElseTonightModel", "at", "I", false)
  | 22 => ("SomebodyElseTonightModel", "begun", "I", false)
  | 23 => ("SomebodyElseTonightModel", "token", "I", false)
  | 24 => ("SomebodyElseTonightModel", "value", "I", false)
  | 25 => ("SomebodyElseTonightModel", "words", "[I", true)
  | 26 => ("SomebodyElseTonightModel", "held", "[I", true)
  | 27 => ("SomebodyElseTonightModel", "heldMany", "I", false)
  | 28 => ("SomebodyElseTonightModel", "opens", "I", false)
  | 29 => ("SomebodyElseTonightModel", "out", "I", false)
  | 30 => ("SomebodyElseTonightModel", "stack", "[I", true)
  | 31 => ("SomebodyElseTonightModel", "named", "[I", true)
  | 32 => ("SomebodyElseTonightModel", "knownSet", "I", false)
  | 33 => ("SomebodyElseTonightModel", "knownCosts", "I", false)
  | 34 => ("SomebodyElseTonightModel", "canBe", "[I", true)
  | 35 => ("SomebodyElseTonightModel", "draw", "[I", true)
  | 36 => ("SomebodyElseTonightModel", "firstFit", "I", false)
  | _ => ("SomebodyElseTonightModel", "kept", "[I", true)
def tyX8 : Nat → FieldType := fun k => match k with
  | 0 => .int
  | 1 => .array .int
  | 2 => .array .int
  | 3 => .array .int
  | 4 => .array .int
  | 5 => .int
  | 6 => .array .int
  | 7 => .int
  | 8 => .array .int
  | 9 => .array .int
  | 10 => .int
  | 11 => .int
  | 12 => .boolean
  | 13 => .int
  | 14 => .int
  | 15 => .int
  | 16 => .array .int
  | 17 => .array .int
  | 18 => .array .int
  | 19 => .array .int
  | 20 => .array .int
  | 21 => .int
  | 22 => .int
  | 23 => .int
  | 24 => .int
  | 25 => .array .int
  | 26 => .array .int
  | 27 => .int
  | 28 => .int
  | 29 => .int
  | 30 => .array .int
  | 31 => .array .int
  | 32 => .int
  | 33 => .int
  | 34 => .array .int
  | 35 => .array .int
  | 36 => .int
  | _ => .array .int
abbrev wsX80 : List Cond := u_ws RX8 TX8 38
theorem nmX8 : ∀ a, a < 38 → ∀ b, b < 38 → a ≠ b → (TX8 a).2.1 ≠ (TX8 b).2.1 := by decide +kernel
theorem tyX8_ok : ∀ k, k < 38 → parseFieldDescriptor (TX8 k).2.2.1 = some (tyX8 k) := by decide +kernel
abbrev cX8_init : ByteArray := prog_10_method_1_code
def yX8_init : MethodName := ⟨RX8, "<init>", "()V"⟩
abbrev cX8_in : ByteArray := prog_10_method_3_code
def yX8_in : MethodName := ⟨RX8, "in", "(III)Z"⟩
abbrev cX8_within : ByteArray := prog_10_method_4_code
def yX8_within : MethodName := ⟨RX8, "within", "(III)I"⟩
abbrev cX8_ones : ByteArray := prog_10_method_5_code
def yX8_ones : MethodName := ⟨RX8, "ones", "(I)I"⟩
abbrev cX8_isGuest : ByteArray := prog_10_method_6_code
def yX8_isGuest : MethodName := ⟨RX8, "isGuest", "(I)Z"⟩
abbrev cX8_isMatter : ByteArray := prog_10_method_7_code
def yX8_isMatter : MethodName := ⟨RX8, "isMatter", "(I)Z"⟩
abbrev cX8_arePair : ByteArray := prog_10_method_8_code
def yX8_arePair : MethodName := ⟨RX8, "arePair", "(I)Z"⟩
abbrev cX8_answer : ByteArray := prog_10_method_9_code
def yX8_answer : MethodName := ⟨RX8, "answer", "(II)I"⟩
abbrev cX8_count : ByteArray := prog_10_method_10_code
def yX8_count : MethodName := ⟨RX8, "count", "(I)I"⟩
abbrev cX8_isByte : ByteArray := prog_10_method_11_code
def yX8_isByte : MethodName := ⟨RX8, "isByte", "(I)Z"⟩
abbrev cX8_feed : ByteArray := prog_10_method_12_code
def yX8_feed : MethodName := ⟨RX8, "feed", "(IIIIII)I"⟩
abbrev cX8_wordFrom : ByteArray := prog_10_method_13_code
def yX8_wordFrom : MethodName := ⟨RX8, "wordFrom", "(II)I"⟩
abbrev cX8_goesNext : ByteArray := prog_10_method_14_code
def yX8_goesNext : MethodName := ⟨RX8, "goesNext", "()V"⟩
abbrev cX8_rank : ByteArray := prog_10_method_15_code
def yX8_rank : MethodName := ⟨RX8, "rank", "(I)I"⟩
abbrev cX8_puts : ByteArray := prog_10_method_16_code
def yX8_puts : MethodName := ⟨RX8, "puts", "(I)V"⟩
abbrev cX8_unwinds : ByteArray := prog_10_method_17_code
def yX8_unwinds : MethodName := ⟨RX8, "unwinds", "(I)V"⟩
abbrev cX8_holds : ByteArray := prog_10_method_18_code
def yX8_holds : MethodName := ⟨RX8, "holds", "(I)V"⟩
abbrev cX8_opensOne : ByteArray := prog_10_method_19_code
def yX8_opensOne : MethodName := ⟨RX8, "opensOne", "(I)Z"⟩
abbrev cX8_between : ByteArray := prog_10_method_20_code
def yX8_between : MethodName := ⟨RX8, "between", "(I)Z"⟩
abbrev cX8_signOf : ByteArray := prog_10_method_21_code
def yX8_signOf : MethodName := ⟨RX8, "signOf", "()I"⟩
abbrev cX8_eRead : ByteArray := prog_10_method_22_code
def yX8_eRead : MethodName := ⟨RX8, "eRead", "()Z"⟩
abbrev cX8_text : ByteArray := prog_10_method_23_code
def yX8_text : MethodName := ⟨RX8, "text", "()I"⟩
abbrev cX8_two : ByteArray := prog_10_method_24_code
def yX8_two : MethodName := ⟨RX8, "two", "(III)I"⟩
abbrev cX8_says : ByteArray := prog_10_method_25_code
def yX8_says : MethodName := ⟨RX8, "says", "(I)I"⟩
abbrev cX8_force : ByteArray := prog_10_method_26_code
def yX8_force : MethodName := ⟨RX8, "force", "(I)I"⟩
abbrev cX8_apartOf : ByteArray := prog_10_method_27_code
def yX8_apartOf : MethodName := ⟨RX8, "apartOf", "(II)I"⟩
abbrev cX8_asksOf : ByteArray := prog_10_method_28_code
def yX8_asksOf : MethodName := ⟨RX8, "asksOf", "(IIII)I"⟩
abbrev cX8_asks : ByteArray := prog_10_method_29_code
def yX8_asks : MethodName := ⟨RX8, "asks", "(III)I"⟩
abbrev cX8_guest : ByteArray := prog_10_method_30_code
def yX8_guest : MethodName := ⟨RX8, "guest", "(II)I"⟩
abbrev cX8_passesOf : ByteArray := prog_10_method_31_code
def yX8_passesOf : MethodName := ⟨RX8, "passesOf", "(I)I"⟩
abbrev cX8_told : ByteArray := prog_10_method_32_code
def yX8_told : MethodName := ⟨RX8, "told", "(II)I"⟩
abbrev cX8_wellOf : ByteArray := prog_10_method_33_code
def yX8_wellOf : MethodName := ⟨RX8, "wellOf", "(III)I"⟩
abbrev cX8_pair : ByteArray := prog_10_method_34_code
def yX8_pair : MethodName := ⟨RX8, "pair", "(II)I"⟩
abbrev cX8_set : ByteArray := prog_10_method_35_code
def yX8_set : MethodName := ⟨RX8, "set", "(III)I"⟩
abbrev cX8_doesAs : ByteArray := prog_10_method_36_code
def yX8_doesAs : MethodName := ⟨RX8, "doesAs", "(III)I"⟩
abbrev cX8_playsOf : ByteArray := prog_10_method_37_code
def yX8_playsOf : MethodName := ⟨RX8, "playsOf", "(I)I"⟩
abbrev cX8_does : ByteArray := prog_10_method_38_code
def yX8_does : MethodName := ⟨RX8, "does", "(II)I"⟩
abbrev cX8_would : ByteArray := prog_10_method_39_code
def yX8_would : MethodName := ⟨RX8, "would", "(II)I"⟩
abbrev cX8_knownOf : ByteArray := prog_10_method_40_code
def yX8_knownOf : MethodName := ⟨RX8, "knownOf", "(I)I"⟩
abbrev cX8_known : ByteArray := prog_10_method_41_code
def yX8_known : MethodName := ⟨RX8, "known", "(I)I"⟩
abbrev cX8_goes : ByteArray := prog_10_method_42_code
def yX8_goes : MethodName := ⟨RX8, "goes", "()V"⟩
abbrev cX8_evening : ByteArray := prog_10_method_43_code
def yX8_evening : MethodName := ⟨RX8, "evening", "(I)I"⟩
abbrev cX8_pays : ByteArray := prog_10_method_44_code
def yX8_pays : MethodName := ⟨RX8, "pays", "(III)V"⟩
abbrev cX8_live : ByteArray := prog_10_method_45_code
def yX8_live : MethodName := ⟨RX8, "live", "()I"⟩
abbrev cX8_mayOf : ByteArray := prog_10_method_46_code
def yX8_mayOf : MethodName := ⟨RX8, "mayOf", "(II)I"⟩
abbrev cX8_may : ByteArray := prog_10_method_47_code
def yX8_may : MethodName := ⟨RX8, "may", "(II)I"⟩
abbrev cX8_numbersAll : ByteArray := prog_10_method_48_code
def yX8_numbersAll : MethodName := ⟨RX8, "numbersAll", "()I"⟩
abbrev cX8_tells : ByteArray := prog_10_method_49_code
def yX8_tells : MethodName := ⟨RX8, "tells", "(I)Z"⟩
abbrev cX8_digitsNow : ByteArray := prog_10_method_50_code
def yX8_digitsNow : MethodName := ⟨RX8, "digitsNow", "()I"⟩
abbrev cX8_fitMany : ByteArray := prog_10_method_51_code
def yX8_fitMany : MethodName := ⟨RX8, "fitMany", "(I)I"⟩
abbrev cX8_fits : ByteArray := prog_10_method_52_code
def yX8_fits : MethodName := ⟨RX8, "fits", "(II)I"⟩
abbrev cX8_next : ByteArray := prog_10_method_53_code
def yX8_next : MethodName := ⟨RX8, "next", "(II)I"⟩
abbrev cX8_fewest : ByteArray := prog_10_method_54_code
def yX8_fewest : MethodName := ⟨RX8, "fewest", "()I"⟩
abbrev cX8_isAllowed : ByteArray := prog_10_method_55_code
def yX8_isAllowed : MethodName := ⟨RX8, "isAllowed", "()Z"⟩
abbrev cX8_plays : ByteArray := prog_10_method_56_code
def yX8_plays : MethodName := ⟨RX8, "plays", "()V"⟩
abbrev cX8_best : ByteArray := prog_10_method_57_code
def yX8_best : MethodName := ⟨RX8, "best", "(II)I"⟩
abbrev cX8_chainOf : ByteArray := prog_10_method_58_code
def yX8_chainOf : MethodName := ⟨RX8, "chainOf", "(II)I"⟩
abbrev cX8_chain : ByteArray := prog_10_method_59_code
def yX8_chain : MethodName := ⟨RX8, "chain", "(II)I"⟩
abbrev cX8_ring : ByteArray := prog_10_method_60_code
def yX8_ring : MethodName := ⟨RX8, "ring", "(I)I"⟩
abbrev cX8_asIf : ByteArray := prog_10_method_61_code
def yX8_asIf : MethodName := ⟨RX8, "asIf", "(III)I"⟩
abbrev cX8_otherwiseOn : ByteArray := prog_10_method_62_code
def yX8_otherwiseOn : MethodName := ⟨RX8, "otherwiseOn", "(I)I"⟩
abbrev cX8_learns : ByteArray := prog_10_method_63_code
def yX8_learns : MethodName := ⟨RX8, "learns", "(II)I"⟩
abbrev cX8_sheetWrong : ByteArray := prog_10_method_64_code
def yX8_sheetWrong : MethodName := ⟨RX8, "sheetWrong", "(I)I"⟩
abbrev cX8_toldWrong : ByteArray := prog_10_method_65_code
def yX8_toldWrong : MethodName := ⟨RX8, "toldWrong", "(II)I"⟩
abbrev cX8_unlike : ByteArray := prog_10_method_66_code
def yX8_unlike : MethodName := ⟨RX8, "unlike", "(II)I"⟩
abbrev cX8_judge : ByteArray := prog_10_method_67_code
def yX8_judge : MethodName := ⟨RX8, "judge", "(II)I"⟩
abbrev cX8_kinds : ByteArray := prog_10_method_68_code
def yX8_kinds : MethodName := ⟨RX8, "kinds", "(III)I"⟩
abbrev cX8_manners : ByteArray := prog_10_method_69_code
def yX8_manners : MethodName := ⟨RX8, "manners", "(III)I"⟩
abbrev cX8_whose : ByteArray := prog_10_method_70_code
def yX8_whose : MethodName := ⟨RX8, "whose", "(I)I"⟩
abbrev cX8_laws : ByteArray := prog_10_method_71_code
def yX8_laws : MethodName := ⟨RX8, "laws", "(II)I"⟩
abbrev cX8_film : ByteArray := prog_10_method_72_code
def yX8_film : MethodName := ⟨RX8, "film", "(II)I"⟩
abbrev cX8_drawsBy : ByteArray := prog_10_method_73_code
def yX8_drawsBy : MethodName := ⟨RX8, "drawsBy", "(I)V"⟩
abbrev cX8_themselves : ByteArray := prog_10_method_74_code
def yX8_themselves : MethodName := ⟨RX8, "themselves", "()I"⟩
abbrev cX8_drawn : ByteArray := prog_10_method_75_code
def yX8_drawn : MethodName := ⟨RX8, "drawn", "(II)I"⟩
abbrev cX8_lots : ByteArray := prog_10_method_76_code
def yX8_lots : MethodName := ⟨RX8, "lots", "(I)I"⟩
abbrev cX8_lowest : ByteArray := prog_10_method_77_code
def yX8_lowest : MethodName := ⟨RX8, "lowest", "(JJI)J"⟩
abbrev cX8_odds : ByteArray := prog_10_method_78_code
def yX8_odds : MethodName := ⟨RX8, "odds", "(III)J"⟩
abbrev cX8_chance : ByteArray := prog_10_method_79_code
def yX8_chance : MethodName := ⟨RX8, "chance", "(II)J"⟩
abbrev cX8_image : ByteArray := prog_10_method_80_code
def yX8_image : MethodName := ⟨RX8, "image", "()I"⟩
abbrev cX8_back : ByteArray := prog_10_method_81_code
def yX8_back : MethodName := ⟨RX8, "back", "()I"⟩
abbrev cX8_sheet : ByteArray := prog_10_method_82_code
def yX8_sheet : MethodName := ⟨RX8, "sheet", "(III)I"⟩
abbrev cX8_cell : ByteArray := prog_10_method_83_code
def yX8_cell : MethodName := ⟨RX8, "cell", "(III)I"⟩
abbrev cX8_copy : ByteArray := prog_10_method_84_code
def yX8_copy : MethodName := ⟨RX8, "copy", "(IIIII)I"⟩
abbrev cX8_guestsBy : ByteArray := prog_10_method_85_code
def yX8_guestsBy : MethodName := ⟨RX8, "guestsBy", "(IIII)I"⟩
abbrev cX8_isUnder : ByteArray := prog_10_method_86_code
def yX8_isUnder : MethodName := ⟨RX8, "isUnder", "(II)Z"⟩
abbrev cX8_taken : ByteArray := prog_10_method_87_code
def yX8_taken : MethodName := ⟨RX8, "taken", "(II)I"⟩
def RJ6 : String := "java/lang/Integer"
def TJ6 : u_T := fun k => match k with
  | _ => ("", "", "", false)
def tyJ6 : Nat → FieldType := fun k => match k with
  | _ => .int
abbrev wsJ60 : List Cond := u_ws RJ6 TJ6 0
theorem nmJ6 : ∀ a, a < 0 → ∀ b, b < 0 → a ≠ b → (TJ6 a).2.1 ≠ (TJ6 b).2.1 := by decide +kernel
theorem tyJ6_ok : ∀ k, k < 0 → parseFieldDescriptor (TJ6 k).2.2.1 = some (tyJ6 k) := by decide +kernel
abbrev cJ6_bitCount_0f7a4 : ByteArray := prog_11_method_49_code
def yJ6_bitCount_0f7a4 : MethodName := ⟨RJ6, "bitCount", "(I)I"⟩
def RJ9 : String := "java/lang/Math"
def TJ9 : u_T := fun k => match k with
  | _ => ("", "", "", false)
def tyJ9 : Nat → FieldType := fun k => match k with
  | _ => .int
abbrev wsJ90 : List Cond := u_ws RJ9 TJ9 0
theorem nmJ9 : ∀ a, a < 0 → ∀ b, b < 0 → a ≠ b → (TJ9 a).2.1 ≠ (TJ9 b).2.1 := by decide +kernel
theorem tyJ9_ok : ∀ k, k < 0 → parseFieldDescriptor (TJ9 k).2.2.1 = some (tyJ9 k) := by decide +kernel
abbrev cJ9_max_7cf53 : ByteArray := prog_12_method_65_code
def yJ9_max_7cf53 : MethodName := ⟨RJ9, "max", "(II)I"⟩
abbrev cJ9_min_7cf53 : ByteArray := prog_12_method_69_code
def yJ9_min_7cf53 : MethodName := ⟨RJ9, "min", "(II)I"⟩
def RJ0 : String := "java/lang/String"
def TJ0 : u_T := fun k => match k with
  | _ => ("", "", "", false)
def tyJ0 : Nat → FieldType := fun k => match k with
  | _ => .int
abbrev wsJ00 : List Cond := u_ws RJ0 TJ0 0
theorem nmJ0 : ∀ a, a < 0 → ∀ b, b < 0 → a ≠ b → (TJ0 a).2.1 ≠ (TJ0 b).2.1 := by decide +kernel
theorem tyJ0_ok : ∀ k, k < 0 → parseFieldDescriptor (TJ0 k).2.2.1 = some (tyJ0 k) := by decide +kernel
abbrev cJ0_length_8abf5 : ByteArray := prog_13_method_54_code
def yJ0_length_8abf5 : MethodName := ⟨RJ0, "length", "()I"⟩
abbrev cJ0_charAt_5068e : ByteArray := prog_13_method_56_code
def yJ0_charAt_5068e : MethodName := ⟨RJ0, "charAt", "(I)C"⟩
abbrev cJ0_coder_7d493 : ByteArray := prog_13_method_152_code
def yJ0_coder_7d493 : MethodName := ⟨RJ0, "coder", "()B"⟩
abbrev cJ0_isLatin1_aae02 : ByteArray := prog_13_method_154_code
def yJ0_isLatin1_aae02 : MethodName := ⟨RJ0, "isLatin1", "()Z"⟩
abbrev cJ0_checkIndex_df160 : ByteArray := prog_13_method_155_code
def yJ0_checkIndex_df160 : MethodName := ⟨RJ0, "checkIndex", "(II)V"⟩
def RJ1 : String := "java/lang/StringLatin1"
def TJ1 : u_T := fun k => match k with
  | _ => ("", "", "", false)
def tyJ1 : Nat → FieldType := fun k => match k with
  | _ => .int
abbrev wsJ10 : List Cond := u_ws RJ1 TJ1 0
theorem nmJ1 : ∀ a, a < 0 → ∀ b, b < 0 → a ≠ b → (TJ1 a).2.1 ≠ (TJ1 b).2.1 := by decide +kernel
theorem tyJ1_ok : ∀ k, k < 0 → parseFieldDescriptor (TJ1 k).2.2.1 = some (tyJ1 k) := by decide +kernel
abbrev cJ1_charAt_3b067 : ByteArray := prog_14_method_2_code
def yJ1_charAt_3b067 : MethodName := ⟨RJ1, "charAt", "([BI)C"⟩
def RJ2 : String := "java/lang/StringUTF16"
def TJ2 : u_T := fun k => match k with
  | _ => ("", "", "", false)
def tyJ2 : Nat → FieldType := fun k => match k with
  | _ => .int
abbrev wsJ20 : List Cond := u_ws RJ2 TJ2 0
theorem nmJ2 : ∀ a, a < 0 → ∀ b, b < 0 → a ≠ b → (TJ2 a).2.1 ≠ (TJ2 b).2.1 := by decide +kernel
theorem tyJ2_ok : ∀ k, k < 0 → parseFieldDescriptor (TJ2 k).2.2.1 = some (tyJ2 k) := by decide +kernel
abbrev cJ2_getChar_3b067 : ByteArray := prog_15_method_5_code
def yJ2_getChar_3b067 : MethodName := ⟨RJ2, "getChar", "([BI)C"⟩
abbrev cJ2_length_9d52b : ByteArray := prog_15_method_6_code
def yJ2_length_9d52b : MethodName := ⟨RJ2, "length", "([B)I"⟩
abbrev cJ2_charAt_3b067 : ByteArray := prog_15_method_83_code
def yJ2_charAt_3b067 : MethodName := ⟨RJ2, "charAt", "([BI)C"⟩
abbrev cJ2_checkIndex_2214a : ByteArray := prog_15_method_91_code
def yJ2_checkIndex_2214a : MethodName := ⟨RJ2, "checkIndex", "(I[B)V"⟩
def RJ3 : String := "jdk/internal/util/Preconditions"
def TJ3 : u_T := fun k => match k with
  | _ => ("", "", "", false)
def tyJ3 : Nat → FieldType := fun k => match k with
  | _ => .int
abbrev wsJ30 : List Cond := u_ws RJ3 TJ3 0
theorem nmJ3 : ∀ a, a < 0 → ∀ b, b < 0 → a ≠ b → (TJ3 a).2.1 ≠ (TJ3 b).2.1 := by decide +kernel
theorem tyJ3_ok : ∀ k, k < 0 → parseFieldDescriptor (TJ3 k).2.2.1 = some (tyJ3 k) := by decide +kernel
abbrev cJ3_checkIndex_8e157 : ByteArray := prog_16_method_11_code
def yJ3_checkIndex_8e157 : MethodName := ⟨RJ3, "checkIndex", "(IILjava/util/function/BiFunction;)I"⟩
def RL : String := "SomebodyElseTonightLaw"
abbrev cL_law : ByteArray := code
def yL_law : MethodName := ⟨RL, "law", "([I)Z"⟩
abbrev vwCl : List vw_C := [(RX0, TX0, 7), (RX1, TX1, 9), (RX2, TX2, 6), (RX3, TX3, 8), (RX4, TX4, 3), (RX5, TX5, 5), (RX6, TX6, 3), (RX7, TX7, 7), (RX8, TX8, 38)]
