section
-- ===== PART A: goes FIRST, ahead of the names: the tables' words, and 'selects' of the private methods out of them =====
/-- a private method of a class that the tables say can be made, by its rows of tables_1 -/
def lw_okq (q : MethodName × Nat) : Prop := (q.1.cls ≠ "java/lang/invoke/MethodHandle" ∧ q.1.cls ≠ "java/lang/invoke/VarHandle") ∧ Cond.instantiable q.1.cls q.2 ∈ tables_1 ∧ Cond.privateMethod q.1 ∈ tables_1 ∧ Cond.instanceMethod q.1 ∈ tables_1
theorem lw_p0 : lw_okq (⟨"PolarPlanimeter$History", "save", "(LPolarPlanimeter$State;)V"⟩, 2) := ⟨⟨by decide +kernel, by decide +kernel⟩, List.mem_of_getElem? (i := 130) (by decide +kernel), List.mem_of_getElem? (i := 309) (by decide +kernel), List.mem_of_getElem? (i := 310) (by decide +kernel)⟩
theorem lw_p1 : lw_okq (⟨"PolarPlanimeter$History", "dropOldest", "()V"⟩, 2) := ⟨⟨by decide +kernel, by decide +kernel⟩, List.mem_of_getElem? (i := 130) (by decide +kernel), List.mem_of_getElem? (i := 313) (by decide +kernel), List.mem_of_getElem? (i := 314) (by decide +kernel)⟩
theorem lw_p2 : lw_okq (⟨"PolarPlanimeter$State", "copy", "(LPolarPlanimeter$State;)V"⟩, 6) := ⟨⟨by decide +kernel, by decide +kernel⟩, List.mem_of_getElem? (i := 32) (by decide +kernel), List.mem_of_getElem? (i := 317) (by decide +kernel), List.mem_of_getElem? (i := 318) (by decide +kernel)⟩
theorem lw_p3 : lw_okq (⟨"PolarPlanimeter$Outline", "copy", "(LPolarPlanimeter$Outline;)V"⟩, 4) := ⟨⟨by decide +kernel, by decide +kernel⟩, List.mem_of_getElem? (i := 38) (by decide +kernel), List.mem_of_getElem? (i := 321) (by decide +kernel), List.mem_of_getElem? (i := 322) (by decide +kernel)⟩
theorem lw_p4 : lw_okq (⟨"PolarPlanimeter$Runs", "copy", "(LPolarPlanimeter$Runs;)V"⟩, 4) := ⟨⟨by decide +kernel, by decide +kernel⟩, List.mem_of_getElem? (i := 67) (by decide +kernel), List.mem_of_getElem? (i := 326) (by decide +kernel), List.mem_of_getElem? (i := 327) (by decide +kernel)⟩
theorem lw_p5 : lw_okq (⟨"PolarPlanimeter", "refusal", "(LPolarPlanimeter$State;)I"⟩, 9) := ⟨⟨by decide +kernel, by decide +kernel⟩, List.mem_of_getElem? (i := 24) (by decide +kernel), List.mem_of_getElem? (i := 330) (by decide +kernel), List.mem_of_getElem? (i := 331) (by decide +kernel)⟩
theorem lw_p6 : lw_okq (⟨"PolarPlanimeter$Outline", "touches", "(II)Z"⟩, 4) := ⟨⟨by decide +kernel, by decide +kernel⟩, List.mem_of_getElem? (i := 38) (by decide +kernel), List.mem_of_getElem? (i := 334) (by decide +kernel), List.mem_of_getElem? (i := 335) (by decide +kernel)⟩
theorem lw_p7 : lw_okq (⟨"PolarPlanimeter$Outline", "next", "(I)I"⟩, 4) := ⟨⟨by decide +kernel, by decide +kernel⟩, List.mem_of_getElem? (i := 38) (by decide +kernel), List.mem_of_getElem? (i := 338) (by decide +kernel), List.mem_of_getElem? (i := 339) (by decide +kernel)⟩
theorem lw_p8 : lw_okq (⟨"PolarPlanimeter$Outline", "sideOf", "(III)J"⟩, 4) := ⟨⟨by decide +kernel, by decide +kernel⟩, List.mem_of_getElem? (i := 38) (by decide +kernel), List.mem_of_getElem? (i := 342) (by decide +kernel), List.mem_of_getElem? (i := 343) (by decide +kernel)⟩
theorem lw_p9 : lw_okq (⟨"PolarPlanimeter$Follower", "measureAll", "(LPolarPlanimeter$State;)V"⟩, 4) := ⟨⟨by decide +kernel, by decide +kernel⟩, List.mem_of_getElem? (i := 147) (by decide +kernel), List.mem_of_getElem? (i := 358) (by decide +kernel), List.mem_of_getElem? (i := 359) (by decide +kernel)⟩
theorem lw_p10 : lw_okq (⟨"PolarPlanimeter$Follower", "beginMeasuring", "(LPolarPlanimeter$State;)V"⟩, 4) := ⟨⟨by decide +kernel, by decide +kernel⟩, List.mem_of_getElem? (i := 147) (by decide +kernel), List.mem_of_getElem? (i := 362) (by decide +kernel), List.mem_of_getElem? (i := 363) (by decide +kernel)⟩
theorem lw_p11 : lw_okq (⟨"PolarPlanimeter$Arm", "fit", "(LPolarPlanimeter$State;)V"⟩, 9) := ⟨⟨by decide +kernel, by decide +kernel⟩, List.mem_of_getElem? (i := 153) (by decide +kernel), List.mem_of_getElem? (i := 366) (by decide +kernel), List.mem_of_getElem? (i := 367) (by decide +kernel)⟩
theorem lw_p12 : lw_okq (⟨"PolarPlanimeter$Follower", "measure", "(LPolarPlanimeter$State;I)V"⟩, 4) := ⟨⟨by decide +kernel, by decide +kernel⟩, List.mem_of_getElem? (i := 147) (by decide +kernel), List.mem_of_getElem? (i := 372) (by decide +kernel), List.mem_of_getElem? (i := 373) (by decide +kernel)⟩
theorem lw_p13 : lw_okq (⟨"PolarPlanimeter$Outline", "steps", "(II)I"⟩, 4) := ⟨⟨by decide +kernel, by decide +kernel⟩, List.mem_of_getElem? (i := 38) (by decide +kernel), List.mem_of_getElem? (i := 376) (by decide +kernel), List.mem_of_getElem? (i := 377) (by decide +kernel)⟩
theorem lw_p14 : lw_okq (⟨"PolarPlanimeter$Outline", "fineX", "(III)J"⟩, 4) := ⟨⟨by decide +kernel, by decide +kernel⟩, List.mem_of_getElem? (i := 38) (by decide +kernel), List.mem_of_getElem? (i := 390) (by decide +kernel), List.mem_of_getElem? (i := 391) (by decide +kernel)⟩
theorem lw_p15 : lw_okq (⟨"PolarPlanimeter$Outline", "fineY", "(III)J"⟩, 4) := ⟨⟨by decide +kernel, by decide +kernel⟩, List.mem_of_getElem? (i := 38) (by decide +kernel), List.mem_of_getElem? (i := 398) (by decide +kernel), List.mem_of_getElem? (i := 399) (by decide +kernel)⟩
def lw_privs_1 : List (MethodName × Nat) := [(⟨"PolarPlanimeter$History", "save", "(LPolarPlanimeter$State;)V"⟩, 2), (⟨"PolarPlanimeter$History", "dropOldest", "()V"⟩, 2), (⟨"PolarPlanimeter$State", "copy", "(LPolarPlanimeter$State;)V"⟩, 6), (⟨"PolarPlanimeter$Outline", "copy", "(LPolarPlanimeter$Outline;)V"⟩, 4), (⟨"PolarPlanimeter$Runs", "copy", "(LPolarPlanimeter$Runs;)V"⟩, 4), (⟨"PolarPlanimeter", "refusal", "(LPolarPlanimeter$State;)I"⟩, 9), (⟨"PolarPlanimeter$Outline", "touches", "(II)Z"⟩, 4), (⟨"PolarPlanimeter$Outline", "next", "(I)I"⟩, 4), (⟨"PolarPlanimeter$Outline", "sideOf", "(III)J"⟩, 4), (⟨"PolarPlanimeter$Follower", "measureAll", "(LPolarPlanimeter$State;)V"⟩, 4), (⟨"PolarPlanimeter$Follower", "beginMeasuring", "(LPolarPlanimeter$State;)V"⟩, 4), (⟨"PolarPlanimeter$Arm", "fit", "(LPolarPlanimeter$State;)V"⟩, 9), (⟨"PolarPlanimeter$Follower", "measure", "(LPolarPlanimeter$State;I)V"⟩, 4), (⟨"PolarPlanimeter$Outline", "steps", "(II)I"⟩, 4), (⟨"PolarPlanimeter$Outline", "fineX", "(III)J"⟩, 4), (⟨"PolarPlanimeter$Outline", "fineY", "(III)J"⟩, 4)]
theorem lw_r1 : ∀ q ∈ lw_privs_1, lw_okq q := List.forall_mem_cons.mpr ⟨lw_p0, List.forall_mem_cons.mpr ⟨lw_p1, List.forall_mem_cons.mpr ⟨lw_p2, List.forall_mem_cons.mpr ⟨lw_p3, List.forall_mem_cons.mpr ⟨lw_p4, List.forall_mem_cons.mpr ⟨lw_p5, List.forall_mem_cons.mpr ⟨lw_p6, List.forall_mem_cons.mpr ⟨lw_p7, List.forall_mem_cons.mpr ⟨lw_p8, List.forall_mem_cons.mpr ⟨lw_p9, List.forall_mem_cons.mpr ⟨lw_p10, List.forall_mem_cons.mpr ⟨lw_p11, List.forall_mem_cons.mpr ⟨lw_p12, List.forall_mem_cons.mpr ⟨lw_p13, List.forall_mem_cons.mpr ⟨lw_p14, List.forall_mem_cons.mpr ⟨lw_p15, fun _ h => absurd h List.not_mem_nil⟩⟩⟩⟩⟩⟩⟩⟩⟩⟩⟩⟩⟩⟩⟩⟩
theorem lw_p16 : lw_okq (⟨"PolarPlanimeter$Arm", "squareTo", "(JJ)J"⟩, 9) := ⟨⟨by decide +kernel, by decide +kernel⟩, List.mem_of_getElem? (i := 153) (by decide +kernel), List.mem_of_getElem? (i := 402) (by decide +kernel), List.mem_of_getElem? (i := 403) (by decide +kernel)⟩
theorem lw_p17 : lw_okq (⟨"PolarPlanimeter$Follower", "reachesMeasured", "()Z"⟩, 4) := ⟨⟨by decide +kernel, by decide +kernel⟩, List.mem_of_getElem? (i := 147) (by decide +kernel), List.mem_of_getElem? (i := 410) (by decide +kernel), List.mem_of_getElem? (i := 411) (by decide +kernel)⟩
theorem lw_p18 : lw_okq (⟨"PolarPlanimeter$Arm", "spans", "(J)Z"⟩, 9) := ⟨⟨by decide +kernel, by decide +kernel⟩, List.mem_of_getElem? (i := 153) (by decide +kernel), List.mem_of_getElem? (i := 426) (by decide +kernel), List.mem_of_getElem? (i := 427) (by decide +kernel)⟩
theorem lw_p19 : lw_okq (⟨"PolarPlanimeter$Follower", "sum", "(LPolarPlanimeter$State;IZ)J"⟩, 4) := ⟨⟨by decide +kernel, by decide +kernel⟩, List.mem_of_getElem? (i := 147) (by decide +kernel), List.mem_of_getElem? (i := 433) (by decide +kernel), List.mem_of_getElem? (i := 434) (by decide +kernel)⟩
theorem lw_p20 : lw_okq (⟨"PolarPlanimeter$Arm", "place", "(JJ)Z"⟩, 9) := ⟨⟨by decide +kernel, by decide +kernel⟩, List.mem_of_getElem? (i := 153) (by decide +kernel), List.mem_of_getElem? (i := 438) (by decide +kernel), List.mem_of_getElem? (i := 439) (by decide +kernel)⟩
theorem lw_p21 : lw_okq (⟨"PolarPlanimeter$Wheel", "start", "(I)V"⟩, 3) := ⟨⟨by decide +kernel, by decide +kernel⟩, List.mem_of_getElem? (i := 190) (by decide +kernel), List.mem_of_getElem? (i := 448) (by decide +kernel), List.mem_of_getElem? (i := 449) (by decide +kernel)⟩
theorem lw_p22 : lw_okq (⟨"PolarPlanimeter$Outline", "previous", "(I)I"⟩, 4) := ⟨⟨by decide +kernel, by decide +kernel⟩, List.mem_of_getElem? (i := 38) (by decide +kernel), List.mem_of_getElem? (i := 453) (by decide +kernel), List.mem_of_getElem? (i := 454) (by decide +kernel)⟩
theorem lw_p23 : lw_okq (⟨"PolarPlanimeter$Follower", "follow", "(LPolarPlanimeter$Outline;IIZ)V"⟩, 4) := ⟨⟨by decide +kernel, by decide +kernel⟩, List.mem_of_getElem? (i := 147) (by decide +kernel), List.mem_of_getElem? (i := 457) (by decide +kernel), List.mem_of_getElem? (i := 458) (by decide +kernel)⟩
theorem lw_p24 : lw_okq (⟨"PolarPlanimeter$Arm", "sweepTo", "(JJ)J"⟩, 9) := ⟨⟨by decide +kernel, by decide +kernel⟩, List.mem_of_getElem? (i := 153) (by decide +kernel), List.mem_of_getElem? (i := 461) (by decide +kernel), List.mem_of_getElem? (i := 462) (by decide +kernel)⟩
theorem lw_p25 : lw_okq (⟨"PolarPlanimeter$Wheel", "turn", "(JI)V"⟩, 3) := ⟨⟨by decide +kernel, by decide +kernel⟩, List.mem_of_getElem? (i := 190) (by decide +kernel), List.mem_of_getElem? (i := 467) (by decide +kernel), List.mem_of_getElem? (i := 468) (by decide +kernel)⟩
theorem lw_p26 : lw_okq (⟨"PolarPlanimeter$Runs", "add", "(IZJ)V"⟩, 4) := ⟨⟨by decide +kernel, by decide +kernel⟩, List.mem_of_getElem? (i := 67) (by decide +kernel), List.mem_of_getElem? (i := 473) (by decide +kernel), List.mem_of_getElem? (i := 474) (by decide +kernel)⟩
theorem lw_p27 : lw_okq (⟨"PolarPlanimeter$Runs", "clear", "()I"⟩, 4) := ⟨⟨by decide +kernel, by decide +kernel⟩, List.mem_of_getElem? (i := 67) (by decide +kernel), List.mem_of_getElem? (i := 481) (by decide +kernel), List.mem_of_getElem? (i := 482) (by decide +kernel)⟩
theorem lw_p28 : lw_okq (⟨"PolarPlanimeter$TextReader", "read", "([II)I"⟩, 7) := ⟨⟨by decide +kernel, by decide +kernel⟩, List.mem_of_getElem? (i := 249) (by decide +kernel), List.mem_of_getElem? (i := 493) (by decide +kernel), List.mem_of_getElem? (i := 494) (by decide +kernel)⟩
theorem lw_p29 : lw_okq (⟨"PolarPlanimeter$TextReader", "beginNumber", "()V"⟩, 7) := ⟨⟨by decide +kernel, by decide +kernel⟩, List.mem_of_getElem? (i := 249) (by decide +kernel), List.mem_of_getElem? (i := 497) (by decide +kernel), List.mem_of_getElem? (i := 498) (by decide +kernel)⟩
theorem lw_p30 : lw_okq (⟨"PolarPlanimeter$TextReader", "accept", "(I)Z"⟩, 7) := ⟨⟨by decide +kernel, by decide +kernel⟩, List.mem_of_getElem? (i := 249) (by decide +kernel), List.mem_of_getElem? (i := 501) (by decide +kernel), List.mem_of_getElem? (i := 502) (by decide +kernel)⟩
theorem lw_p31 : lw_okq (⟨"PolarPlanimeter$TextReader", "acceptMinus", "()Z"⟩, 7) := ⟨⟨by decide +kernel, by decide +kernel⟩, List.mem_of_getElem? (i := 249) (by decide +kernel), List.mem_of_getElem? (i := 505) (by decide +kernel), List.mem_of_getElem? (i := 506) (by decide +kernel)⟩
def lw_privs_2 : List (MethodName × Nat) := [(⟨"PolarPlanimeter$Arm", "squareTo", "(JJ)J"⟩, 9), (⟨"PolarPlanimeter$Follower", "reachesMeasured", "()Z"⟩, 4), (⟨"PolarPlanimeter$Arm", "spans", "(J)Z"⟩, 9), (⟨"PolarPlanimeter$Follower", "sum", "(LPolarPlanimeter$State;IZ)J"⟩, 4), (⟨"PolarPlanimeter$Arm", "place", "(JJ)Z"⟩, 9), (⟨"PolarPlanimeter$Wheel", "start", "(I)V"⟩, 3), (⟨"PolarPlanimeter$Outline", "previous", "(I)I"⟩, 4), (⟨"PolarPlanimeter$Follower", "follow", "(LPolarPlanimeter$Outline;IIZ)V"⟩, 4), (⟨"PolarPlanimeter$Arm", "sweepTo", "(JJ)J"⟩, 9), (⟨"PolarPlanimeter$Wheel", "turn", "(JI)V"⟩, 3), (⟨"PolarPlanimeter$Runs", "add", "(IZJ)V"⟩, 4), (⟨"PolarPlanimeter$Runs", "clear", "()I"⟩, 4), (⟨"PolarPlanimeter$TextReader", "read", "([II)I"⟩, 7), (⟨"PolarPlanimeter$TextReader", "beginNumber", "()V"⟩, 7), (⟨"PolarPlanimeter$TextReader", "accept", "(I)Z"⟩, 7), (⟨"PolarPlanimeter$TextReader", "acceptMinus", "()Z"⟩, 7)]
theorem lw_r2 : ∀ q ∈ lw_privs_2, lw_okq q := List.forall_mem_cons.mpr ⟨lw_p16, List.forall_mem_cons.mpr ⟨lw_p17, List.forall_mem_cons.mpr ⟨lw_p18, List.forall_mem_cons.mpr ⟨lw_p19, List.forall_mem_cons.mpr ⟨lw_p20, List.forall_mem_cons.mpr ⟨lw_p21, List.forall_mem_cons.mpr ⟨lw_p22, List.forall_mem_cons.mpr ⟨lw_p23, List.forall_mem_cons.mpr ⟨lw_p24, List.forall_mem_cons.mpr ⟨lw_p25, List.forall_mem_cons.mpr ⟨lw_p26, List.forall_mem_cons.mpr ⟨lw_p27, List.forall_mem_cons.mpr ⟨lw_p28, List.forall_mem_cons.mpr ⟨lw_p29, List.forall_mem_cons.mpr ⟨lw_p30, List.forall_mem_cons.mpr ⟨lw_p31, fun _ h => absurd h List.not_mem_nil⟩⟩⟩⟩⟩⟩⟩⟩⟩⟩⟩⟩⟩⟩⟩⟩
theorem lw_p32 : lw_okq (⟨"PolarPlanimeter$TextReader", "acceptComma", "()Z"⟩, 7) := ⟨⟨by decide +kernel, by decide +kernel⟩, List.mem_of_getElem? (i := 249) (by decide +kernel), List.mem_of_getElem? (i := 509) (by decide +kernel), List.mem_of_getElem? (i := 510) (by decide +kernel)⟩
theorem lw_p33 : lw_okq (⟨"PolarPlanimeter$TextReader", "acceptSemicolon", "()Z"⟩, 7) := ⟨⟨by decide +kernel, by decide +kernel⟩, List.mem_of_getElem? (i := 249) (by decide +kernel), List.mem_of_getElem? (i := 513) (by decide +kernel), List.mem_of_getElem? (i := 514) (by decide +kernel)⟩
theorem lw_p34 : lw_okq (⟨"PolarPlanimeter$TextReader", "acceptDigit", "(I)Z"⟩, 7) := ⟨⟨by decide +kernel, by decide +kernel⟩, List.mem_of_getElem? (i := 249) (by decide +kernel), List.mem_of_getElem? (i := 517) (by decide +kernel), List.mem_of_getElem? (i := 518) (by decide +kernel)⟩
theorem lw_p35 : lw_okq (⟨"PolarPlanimeter$TextReader", "keepNumber", "(I)V"⟩, 7) := ⟨⟨by decide +kernel, by decide +kernel⟩, List.mem_of_getElem? (i := 249) (by decide +kernel), List.mem_of_getElem? (i := 521) (by decide +kernel), List.mem_of_getElem? (i := 522) (by decide +kernel)⟩
theorem lw_p36 : lw_okq (⟨"PolarPlanimeter$Follower", "reachesMeasuredWith", "(I)Z"⟩, 4) := ⟨⟨by decide +kernel, by decide +kernel⟩, List.mem_of_getElem? (i := 147) (by decide +kernel), List.mem_of_getElem? (i := 537) (by decide +kernel), List.mem_of_getElem? (i := 538) (by decide +kernel)⟩
theorem lw_p37 : lw_okq (⟨"PolarPlanimeter$Outline", "area", "()J"⟩, 4) := ⟨⟨by decide +kernel, by decide +kernel⟩, List.mem_of_getElem? (i := 38) (by decide +kernel), List.mem_of_getElem? (i := 546) (by decide +kernel), List.mem_of_getElem? (i := 547) (by decide +kernel)⟩
theorem lw_p38 : lw_okq (⟨"PolarPlanimeter$Outline", "twiceArea", "()J"⟩, 4) := ⟨⟨by decide +kernel, by decide +kernel⟩, List.mem_of_getElem? (i := 38) (by decide +kernel), List.mem_of_getElem? (i := 550) (by decide +kernel), List.mem_of_getElem? (i := 551) (by decide +kernel)⟩
theorem lw_p39 : lw_okq (⟨"PolarPlanimeter", "meanMinusArea", "()J"⟩, 9) := ⟨⟨by decide +kernel, by decide +kernel⟩, List.mem_of_getElem? (i := 24) (by decide +kernel), List.mem_of_getElem? (i := 555) (by decide +kernel), List.mem_of_getElem? (i := 556) (by decide +kernel)⟩
theorem lw_p40 : lw_okq (⟨"PolarPlanimeter$Mean", "take", "(LPolarPlanimeter$State;)V"⟩, 6) := ⟨⟨by decide +kernel, by decide +kernel⟩, List.mem_of_getElem? (i := 221) (by decide +kernel), List.mem_of_getElem? (i := 559) (by decide +kernel), List.mem_of_getElem? (i := 560) (by decide +kernel)⟩
theorem lw_p41 : lw_okq (⟨"PolarPlanimeter$State", "constant", "()J"⟩, 6) := ⟨⟨by decide +kernel, by decide +kernel⟩, List.mem_of_getElem? (i := 32) (by decide +kernel), List.mem_of_getElem? (i := 563) (by decide +kernel), List.mem_of_getElem? (i := 564) (by decide +kernel)⟩
theorem lw_p42 : lw_okq (⟨"PolarPlanimeter$State", "winding", "()J"⟩, 6) := ⟨⟨by decide +kernel, by decide +kernel⟩, List.mem_of_getElem? (i := 32) (by decide +kernel), List.mem_of_getElem? (i := 567) (by decide +kernel), List.mem_of_getElem? (i := 568) (by decide +kernel)⟩
theorem lw_p43 : lw_okq (⟨"PolarPlanimeter$Outline", "windingAround", "(II)J"⟩, 4) := ⟨⟨by decide +kernel, by decide +kernel⟩, List.mem_of_getElem? (i := 38) (by decide +kernel), List.mem_of_getElem? (i := 571) (by decide +kernel), List.mem_of_getElem? (i := 572) (by decide +kernel)⟩
theorem lw_p44 : lw_okq (⟨"PolarPlanimeter$Outline", "crossing", "(III)I"⟩, 4) := ⟨⟨by decide +kernel, by decide +kernel⟩, List.mem_of_getElem? (i := 38) (by decide +kernel), List.mem_of_getElem? (i := 575) (by decide +kernel), List.mem_of_getElem? (i := 576) (by decide +kernel)⟩
theorem lw_p45 : lw_okq (⟨"PolarPlanimeter$Runs", "area", "(IJ)J"⟩, 4) := ⟨⟨by decide +kernel, by decide +kernel⟩, List.mem_of_getElem? (i := 67) (by decide +kernel), List.mem_of_getElem? (i := 581) (by decide +kernel), List.mem_of_getElem? (i := 582) (by decide +kernel)⟩
theorem lw_p46 : lw_okq (⟨"PolarPlanimeter$Mean", "leaveOut", "(I)V"⟩, 6) := ⟨⟨by decide +kernel, by decide +kernel⟩, List.mem_of_getElem? (i := 221) (by decide +kernel), List.mem_of_getElem? (i := 586) (by decide +kernel), List.mem_of_getElem? (i := 587) (by decide +kernel)⟩
theorem lw_p47 : lw_okq (⟨"PolarPlanimeter$Mean", "middleOfKept", "()J"⟩, 6) := ⟨⟨by decide +kernel, by decide +kernel⟩, List.mem_of_getElem? (i := 221) (by decide +kernel), List.mem_of_getElem? (i := 590) (by decide +kernel), List.mem_of_getElem? (i := 591) (by decide +kernel)⟩
def lw_privs_3 : List (MethodName × Nat) := [(⟨"PolarPlanimeter$TextReader", "acceptComma", "()Z"⟩, 7), (⟨"PolarPlanimeter$TextReader", "acceptSemicolon", "()Z"⟩, 7), (⟨"PolarPlanimeter$TextReader", "acceptDigit", "(I)Z"⟩, 7), (⟨"PolarPlanimeter$TextReader", "keepNumber", "(I)V"⟩, 7), (⟨"PolarPlanimeter$Follower", "reachesMeasuredWith", "(I)Z"⟩, 4), (⟨"PolarPlanimeter$Outline", "area", "()J"⟩, 4), (⟨"PolarPlanimeter$Outline", "twiceArea", "()J"⟩, 4), (⟨"PolarPlanimeter", "meanMinusArea", "()J"⟩, 9), (⟨"PolarPlanimeter$Mean", "take", "(LPolarPlanimeter$State;)V"⟩, 6), (⟨"PolarPlanimeter$State", "constant", "()J"⟩, 6), (⟨"PolarPlanimeter$State", "winding", "()J"⟩, 6), (⟨"PolarPlanimeter$Outline", "windingAround", "(II)J"⟩, 4), (⟨"PolarPlanimeter$Outline", "crossing", "(III)I"⟩, 4), (⟨"PolarPlanimeter$Runs", "area", "(IJ)J"⟩, 4), (⟨"PolarPlanimeter$Mean", "leaveOut", "(I)V"⟩, 6), (⟨"PolarPlanimeter$Mean", "middleOfKept", "()J"⟩, 6)]
theorem lw_r3 : ∀ q ∈ lw_privs_3, lw_okq q := List.forall_mem_cons.mpr ⟨lw_p32, List.forall_mem_cons.mpr ⟨lw_p33, List.forall_mem_cons.mpr ⟨lw_p34, List.forall_mem_cons.mpr ⟨lw_p35, List.forall_mem_cons.mpr ⟨lw_p36, List.forall_mem_cons.mpr ⟨lw_p37, List.forall_mem_cons.mpr ⟨lw_p38, List.forall_mem_cons.mpr ⟨lw_p39, List.forall_mem_cons.mpr ⟨lw_p40, List.forall_mem_cons.mpr ⟨lw_p41, List.forall_mem_cons.mpr ⟨lw_p42, List.forall_mem_cons.mpr ⟨lw_p43, List.forall_mem_cons.mpr ⟨lw_p44, List.forall_mem_cons.mpr ⟨lw_p45, List.forall_mem_cons.mpr ⟨lw_p46, List.forall_mem_cons.mpr ⟨lw_p47, fun _ h => absurd h List.not_mem_nil⟩⟩⟩⟩⟩⟩⟩⟩⟩⟩⟩⟩⟩⟩⟩⟩
theorem lw_p48 : lw_okq (⟨"PolarPlanimeter$Mean", "sortIn", "(JI)V"⟩, 6) := ⟨⟨by decide +kernel, by decide +kernel⟩, List.mem_of_getElem? (i := 221) (by decide +kernel), List.mem_of_getElem? (i := 594) (by decide +kernel), List.mem_of_getElem? (i := 595) (by decide +kernel)⟩
theorem lw_p49 : lw_okq (⟨"PolarPlanimeter$Mean", "farthestFrom", "(J)I"⟩, 6) := ⟨⟨by decide +kernel, by decide +kernel⟩, List.mem_of_getElem? (i := 221) (by decide +kernel), List.mem_of_getElem? (i := 599) (by decide +kernel), List.mem_of_getElem? (i := 600) (by decide +kernel)⟩
theorem lw_p50 : lw_okq (⟨"PolarPlanimeter$Mean", "sumOfKept", "()J"⟩, 6) := ⟨⟨by decide +kernel, by decide +kernel⟩, List.mem_of_getElem? (i := 221) (by decide +kernel), List.mem_of_getElem? (i := 605) (by decide +kernel), List.mem_of_getElem? (i := 606) (by decide +kernel)⟩
theorem lw_p51 : lw_okq (⟨"PolarPlanimeter", "number", "(I)J"⟩, 9) := ⟨⟨by decide +kernel, by decide +kernel⟩, List.mem_of_getElem? (i := 24) (by decide +kernel), List.mem_of_getElem? (i := 615) (by decide +kernel), List.mem_of_getElem? (i := 616) (by decide +kernel)⟩
theorem lw_p52 : lw_okq (⟨"PolarPlanimeter$Outline", "allSteps", "(I)J"⟩, 4) := ⟨⟨by decide +kernel, by decide +kernel⟩, List.mem_of_getElem? (i := 38) (by decide +kernel), List.mem_of_getElem? (i := 622) (by decide +kernel), List.mem_of_getElem? (i := 623) (by decide +kernel)⟩
theorem lw_p53 : lw_okq (⟨"PolarPlanimeter", "cornerProperty", "(II)J"⟩, 9) := ⟨⟨by decide +kernel, by decide +kernel⟩, List.mem_of_getElem? (i := 24) (by decide +kernel), List.mem_of_getElem? (i := 631) (by decide +kernel), List.mem_of_getElem? (i := 632) (by decide +kernel)⟩
theorem lw_p54 : lw_okq (⟨"PolarPlanimeter", "isSegmentInReach", "(I)Z"⟩, 9) := ⟨⟨by decide +kernel, by decide +kernel⟩, List.mem_of_getElem? (i := 24) (by decide +kernel), List.mem_of_getElem? (i := 636) (by decide +kernel), List.mem_of_getElem? (i := 637) (by decide +kernel)⟩
theorem lw_p55 : lw_okq (⟨"PolarPlanimeter$Follower", "measureOne", "(LPolarPlanimeter$State;I)V"⟩, 4) := ⟨⟨by decide +kernel, by decide +kernel⟩, List.mem_of_getElem? (i := 147) (by decide +kernel), List.mem_of_getElem? (i := 640) (by decide +kernel), List.mem_of_getElem? (i := 641) (by decide +kernel)⟩
theorem lw_p56 : lw_okq (⟨"PolarPlanimeter$Follower", "roll", "(LPolarPlanimeter$State;I)J"⟩, 4) := ⟨⟨by decide +kernel, by decide +kernel⟩, List.mem_of_getElem? (i := 147) (by decide +kernel), List.mem_of_getElem? (i := 644) (by decide +kernel), List.mem_of_getElem? (i := 645) (by decide +kernel)⟩
theorem lw_p57 : lw_okq (⟨"PolarPlanimeter", "runProperty", "(II)J"⟩, 9) := ⟨⟨by decide +kernel, by decide +kernel⟩, List.mem_of_getElem? (i := 24) (by decide +kernel), List.mem_of_getElem? (i := 648) (by decide +kernel), List.mem_of_getElem? (i := 649) (by decide +kernel)⟩
theorem lw_p58 : lw_okq (⟨"PolarPlanimeter", "errorBits", "()J"⟩, 9) := ⟨⟨by decide +kernel, by decide +kernel⟩, List.mem_of_getElem? (i := 24) (by decide +kernel), List.mem_of_getElem? (i := 655) (by decide +kernel), List.mem_of_getElem? (i := 656) (by decide +kernel)⟩
theorem lw_p59 : lw_okq (⟨"java/lang/Throwable", "fillInStackTrace", "(I)Ljava/lang/Throwable;"⟩, 6) := ⟨⟨by decide +kernel, by decide +kernel⟩, List.mem_of_getElem? (i := 717) (by decide +kernel), List.mem_of_getElem? (i := 715) (by decide +kernel), List.mem_of_getElem? (i := 716) (by decide +kernel)⟩
theorem lw_p60 : lw_okq (⟨"PolarPlanimeter$Outline", "open", "(III)V"⟩, 4) := ⟨⟨by decide +kernel, by decide +kernel⟩, List.mem_of_getElem? (i := 38) (by decide +kernel), List.mem_of_getElem? (i := 816) (by decide +kernel), List.mem_of_getElem? (i := 817) (by decide +kernel)⟩
theorem lw_p61 : lw_okq (⟨"PolarPlanimeter$Outline", "put", "(IIII)V"⟩, 4) := ⟨⟨by decide +kernel, by decide +kernel⟩, List.mem_of_getElem? (i := 38) (by decide +kernel), List.mem_of_getElem? (i := 820) (by decide +kernel), List.mem_of_getElem? (i := 821) (by decide +kernel)⟩
theorem lw_p62 : lw_okq (⟨"PolarPlanimeter", "checkCorner", "(I)V"⟩, 9) := ⟨⟨by decide +kernel, by decide +kernel⟩, List.mem_of_getElem? (i := 24) (by decide +kernel), List.mem_of_getElem? (i := 831) (by decide +kernel), List.mem_of_getElem? (i := 832) (by decide +kernel)⟩
theorem lw_p63 : lw_okq (⟨"PolarPlanimeter$Outline", "close", "(I)V"⟩, 4) := ⟨⟨by decide +kernel, by decide +kernel⟩, List.mem_of_getElem? (i := 38) (by decide +kernel), List.mem_of_getElem? (i := 843) (by decide +kernel), List.mem_of_getElem? (i := 844) (by decide +kernel)⟩
def lw_privs_4 : List (MethodName × Nat) := [(⟨"PolarPlanimeter$Mean", "sortIn", "(JI)V"⟩, 6), (⟨"PolarPlanimeter$Mean", "farthestFrom", "(J)I"⟩, 6), (⟨"PolarPlanimeter$Mean", "sumOfKept", "()J"⟩, 6), (⟨"PolarPlanimeter", "number", "(I)J"⟩, 9), (⟨"PolarPlanimeter$Outline", "allSteps", "(I)J"⟩, 4), (⟨"PolarPlanimeter", "cornerProperty", "(II)J"⟩, 9), (⟨"PolarPlanimeter", "isSegmentInReach", "(I)Z"⟩, 9), (⟨"PolarPlanimeter$Follower", "measureOne", "(LPolarPlanimeter$State;I)V"⟩, 4), (⟨"PolarPlanimeter$Follower", "roll", "(LPolarPlanimeter$State;I)J"⟩, 4), (⟨"PolarPlanimeter", "runProperty", "(II)J"⟩, 9), (⟨"PolarPlanimeter", "errorBits", "()J"⟩, 9), (⟨"java/lang/Throwable", "fillInStackTrace", "(I)Ljava/lang/Throwable;"⟩, 6), (⟨"PolarPlanimeter$Outline", "open", "(III)V"⟩, 4), (⟨"PolarPlanimeter$Outline", "put", "(IIII)V"⟩, 4), (⟨"PolarPlanimeter", "checkCorner", "(I)V"⟩, 9), (⟨"PolarPlanimeter$Outline", "close", "(I)V"⟩, 4)]
theorem lw_r4 : ∀ q ∈ lw_privs_4, lw_okq q := List.forall_mem_cons.mpr ⟨lw_p48, List.forall_mem_cons.mpr ⟨lw_p49, List.forall_mem_cons.mpr ⟨lw_p50, List.forall_mem_cons.mpr ⟨lw_p51, List.forall_mem_cons.mpr ⟨lw_p52, List.forall_mem_cons.mpr ⟨lw_p53, List.forall_mem_cons.mpr ⟨lw_p54, List.forall_mem_cons.mpr ⟨lw_p55, List.forall_mem_cons.mpr ⟨lw_p56, List.forall_mem_cons.mpr ⟨lw_p57, List.forall_mem_cons.mpr ⟨lw_p58, List.forall_mem_cons.mpr ⟨lw_p59, List.forall_mem_cons.mpr ⟨lw_p60, List.forall_mem_cons.mpr ⟨lw_p61, List.forall_mem_cons.mpr ⟨lw_p62, List.forall_mem_cons.mpr ⟨lw_p63, fun _ h => absurd h List.not_mem_nil⟩⟩⟩⟩⟩⟩⟩⟩⟩⟩⟩⟩⟩⟩⟩⟩
theorem lw_p64 : lw_okq (⟨"PolarPlanimeter$TextReader", "isComplete", "()Z"⟩, 7) := ⟨⟨by decide +kernel, by decide +kernel⟩, List.mem_of_getElem? (i := 249) (by decide +kernel), List.mem_of_getElem? (i := 879) (by decide +kernel), List.mem_of_getElem? (i := 880) (by decide +kernel)⟩
theorem lw_p65 : lw_okq (⟨"PolarPlanimeter$TextReader", "putInto", "(LPolarPlanimeter$Outline;)V"⟩, 7) := ⟨⟨by decide +kernel, by decide +kernel⟩, List.mem_of_getElem? (i := 249) (by decide +kernel), List.mem_of_getElem? (i := 884) (by decide +kernel), List.mem_of_getElem? (i := 885) (by decide +kernel)⟩
theorem lw_p66 : lw_okq (⟨"PolarPlanimeter$History", "restore", "(LPolarPlanimeter$State;)V"⟩, 2) := ⟨⟨by decide +kernel, by decide +kernel⟩, List.mem_of_getElem? (i := 130) (by decide +kernel), List.mem_of_getElem? (i := 897) (by decide +kernel), List.mem_of_getElem? (i := 898) (by decide +kernel)⟩
theorem lw_p67 : lw_okq (⟨"PolarPlanimeterModel", "save", "()V"⟩, 18) := ⟨⟨by decide +kernel, by decide +kernel⟩, List.mem_of_getElem? (i := 960) (by decide +kernel), List.mem_of_getElem? (i := 1042) (by decide +kernel), List.mem_of_getElem? (i := 1043) (by decide +kernel)⟩
theorem lw_p68 : lw_okq (⟨"PolarPlanimeterModel", "dropRuns", "()I"⟩, 18) := ⟨⟨by decide +kernel, by decide +kernel⟩, List.mem_of_getElem? (i := 960) (by decide +kernel), List.mem_of_getElem? (i := 1046) (by decide +kernel), List.mem_of_getElem? (i := 1047) (by decide +kernel)⟩
theorem lw_p69 : lw_okq (⟨"PolarPlanimeterModel", "replaced", "(II)I"⟩, 18) := ⟨⟨by decide +kernel, by decide +kernel⟩, List.mem_of_getElem? (i := 960) (by decide +kernel), List.mem_of_getElem? (i := 1064) (by decide +kernel), List.mem_of_getElem? (i := 1065) (by decide +kernel)⟩
theorem lw_p70 : lw_okq (⟨"PolarPlanimeterModel", "corners", "()I"⟩, 18) := ⟨⟨by decide +kernel, by decide +kernel⟩, List.mem_of_getElem? (i := 960) (by decide +kernel), List.mem_of_getElem? (i := 1077) (by decide +kernel), List.mem_of_getElem? (i := 1078) (by decide +kernel)⟩
theorem lw_p71 : lw_okq (⟨"PolarPlanimeterModel", "putCorner", "(IIII)V"⟩, 18) := ⟨⟨by decide +kernel, by decide +kernel⟩, List.mem_of_getElem? (i := 960) (by decide +kernel), List.mem_of_getElem? (i := 1085) (by decide +kernel), List.mem_of_getElem? (i := 1086) (by decide +kernel)⟩
theorem lw_p72 : lw_okq (⟨"PolarPlanimeterModel", "isCorner", "(I)Z"⟩, 18) := ⟨⟨by decide +kernel, by decide +kernel⟩, List.mem_of_getElem? (i := 960) (by decide +kernel), List.mem_of_getElem? (i := 1093) (by decide +kernel), List.mem_of_getElem? (i := 1094) (by decide +kernel)⟩
theorem lw_p73 : lw_okq (⟨"PolarPlanimeterModel", "refusal", "()I"⟩, 18) := ⟨⟨by decide +kernel, by decide +kernel⟩, List.mem_of_getElem? (i := 960) (by decide +kernel), List.mem_of_getElem? (i := 1110) (by decide +kernel), List.mem_of_getElem? (i := 1111) (by decide +kernel)⟩
theorem lw_p74 : lw_okq (⟨"PolarPlanimeterModel", "shut", "()I"⟩, 18) := ⟨⟨by decide +kernel, by decide +kernel⟩, List.mem_of_getElem? (i := 960) (by decide +kernel), List.mem_of_getElem? (i := 1114) (by decide +kernel), List.mem_of_getElem? (i := 1115) (by decide +kernel)⟩
theorem lw_p75 : lw_okq (⟨"PolarPlanimeterModel", "isOnOutline", "()Z"⟩, 18) := ⟨⟨by decide +kernel, by decide +kernel⟩, List.mem_of_getElem? (i := 960) (by decide +kernel), List.mem_of_getElem? (i := 1118) (by decide +kernel), List.mem_of_getElem? (i := 1119) (by decide +kernel)⟩
theorem lw_p76 : lw_okq (⟨"PolarPlanimeterModel", "isOn", "(I)Z"⟩, 18) := ⟨⟨by decide +kernel, by decide +kernel⟩, List.mem_of_getElem? (i := 960) (by decide +kernel), List.mem_of_getElem? (i := 1122) (by decide +kernel), List.mem_of_getElem? (i := 1123) (by decide +kernel)⟩
theorem lw_p77 : lw_okq (⟨"PolarPlanimeterModel", "x", "(I)J"⟩, 18) := ⟨⟨by decide +kernel, by decide +kernel⟩, List.mem_of_getElem? (i := 960) (by decide +kernel), List.mem_of_getElem? (i := 1126) (by decide +kernel), List.mem_of_getElem? (i := 1127) (by decide +kernel)⟩
theorem lw_p78 : lw_okq (⟨"PolarPlanimeterModel", "y", "(I)J"⟩, 18) := ⟨⟨by decide +kernel, by decide +kernel⟩, List.mem_of_getElem? (i := 960) (by decide +kernel), List.mem_of_getElem? (i := 1130) (by decide +kernel), List.mem_of_getElem? (i := 1131) (by decide +kernel)⟩
theorem lw_p79 : lw_okq (⟨"PolarPlanimeterModel", "allReached", "()Z"⟩, 18) := ⟨⟨by decide +kernel, by decide +kernel⟩, List.mem_of_getElem? (i := 960) (by decide +kernel), List.mem_of_getElem? (i := 1137) (by decide +kernel), List.mem_of_getElem? (i := 1138) (by decide +kernel)⟩
def lw_privs_5 : List (MethodName × Nat) := [(⟨"PolarPlanimeter$TextReader", "isComplete", "()Z"⟩, 7), (⟨"PolarPlanimeter$TextReader", "putInto", "(LPolarPlanimeter$Outline;)V"⟩, 7), (⟨"PolarPlanimeter$History", "restore", "(LPolarPlanimeter$State;)V"⟩, 2), (⟨"PolarPlanimeterModel", "save", "()V"⟩, 18), (⟨"PolarPlanimeterModel", "dropRuns", "()I"⟩, 18), (⟨"PolarPlanimeterModel", "replaced", "(II)I"⟩, 18), (⟨"PolarPlanimeterModel", "corners", "()I"⟩, 18), (⟨"PolarPlanimeterModel", "putCorner", "(IIII)V"⟩, 18), (⟨"PolarPlanimeterModel", "isCorner", "(I)Z"⟩, 18), (⟨"PolarPlanimeterModel", "refusal", "()I"⟩, 18), (⟨"PolarPlanimeterModel", "shut", "()I"⟩, 18), (⟨"PolarPlanimeterModel", "isOnOutline", "()Z"⟩, 18), (⟨"PolarPlanimeterModel", "isOn", "(I)Z"⟩, 18), (⟨"PolarPlanimeterModel", "x", "(I)J"⟩, 18), (⟨"PolarPlanimeterModel", "y", "(I)J"⟩, 18), (⟨"PolarPlanimeterModel", "allReached", "()Z"⟩, 18)]
theorem lw_r5 : ∀ q ∈ lw_privs_5, lw_okq q := List.forall_mem_cons.mpr ⟨lw_p64, List.forall_mem_cons.mpr ⟨lw_p65, List.forall_mem_cons.mpr ⟨lw_p66, List.forall_mem_cons.mpr ⟨lw_p67, List.forall_mem_cons.mpr ⟨lw_p68, List.forall_mem_cons.mpr ⟨lw_p69, List.forall_mem_cons.mpr ⟨lw_p70, List.forall_mem_cons.mpr ⟨lw_p71, List.forall_mem_cons.mpr ⟨lw_p72, List.forall_mem_cons.mpr ⟨lw_p73, List.forall_mem_cons.mpr ⟨lw_p74, List.forall_mem_cons.mpr ⟨lw_p75, List.forall_mem_cons.mpr ⟨lw_p76, List.forall_mem_cons.mpr ⟨lw_p77, List.forall_mem_cons.mpr ⟨lw_p78, List.forall_mem_cons.mpr ⟨lw_p79, fun _ h => absurd h List.not_mem_nil⟩⟩⟩⟩⟩⟩⟩⟩⟩⟩⟩⟩⟩⟩⟩⟩
theorem lw_p80 : lw_okq (⟨"PolarPlanimeterModel", "isReached", "(I)Z"⟩, 18) := ⟨⟨by decide +kernel, by decide +kernel⟩, List.mem_of_getElem? (i := 960) (by decide +kernel), List.mem_of_getElem? (i := 1141) (by decide +kernel), List.mem_of_getElem? (i := 1142) (by decide +kernel)⟩
theorem lw_p81 : lw_okq (⟨"PolarPlanimeterModel", "steps", "(I)I"⟩, 18) := ⟨⟨by decide +kernel, by decide +kernel⟩, List.mem_of_getElem? (i := 960) (by decide +kernel), List.mem_of_getElem? (i := 1145) (by decide +kernel), List.mem_of_getElem? (i := 1146) (by decide +kernel)⟩
theorem lw_p82 : lw_okq (⟨"PolarPlanimeterModel", "of", "(I)J"⟩, 18) := ⟨⟨by decide +kernel, by decide +kernel⟩, List.mem_of_getElem? (i := 960) (by decide +kernel), List.mem_of_getElem? (i := 1152) (by decide +kernel), List.mem_of_getElem? (i := 1153) (by decide +kernel)⟩
theorem lw_p83 : lw_okq (⟨"PolarPlanimeterModel", "pointX", "(II)J"⟩, 18) := ⟨⟨by decide +kernel, by decide +kernel⟩, List.mem_of_getElem? (i := 960) (by decide +kernel), List.mem_of_getElem? (i := 1156) (by decide +kernel), List.mem_of_getElem? (i := 1157) (by decide +kernel)⟩
theorem lw_p84 : lw_okq (⟨"PolarPlanimeterModel", "pointY", "(II)J"⟩, 18) := ⟨⟨by decide +kernel, by decide +kernel⟩, List.mem_of_getElem? (i := 960) (by decide +kernel), List.mem_of_getElem? (i := 1161) (by decide +kernel), List.mem_of_getElem? (i := 1162) (by decide +kernel)⟩
theorem lw_p85 : lw_okq (⟨"PolarPlanimeterModel", "reaches", "(JJ)Z"⟩, 18) := ⟨⟨by decide +kernel, by decide +kernel⟩, List.mem_of_getElem? (i := 960) (by decide +kernel), List.mem_of_getElem? (i := 1165) (by decide +kernel), List.mem_of_getElem? (i := 1166) (by decide +kernel)⟩
theorem lw_p86 : lw_okq (⟨"PolarPlanimeterModel", "make", "(IZ)V"⟩, 18) := ⟨⟨by decide +kernel, by decide +kernel⟩, List.mem_of_getElem? (i := 960) (by decide +kernel), List.mem_of_getElem? (i := 1175) (by decide +kernel), List.mem_of_getElem? (i := 1176) (by decide +kernel)⟩
theorem lw_p87 : lw_okq (⟨"PolarPlanimeterModel", "sumOf", "(IZ)J"⟩, 18) := ⟨⟨by decide +kernel, by decide +kernel⟩, List.mem_of_getElem? (i := 960) (by decide +kernel), List.mem_of_getElem? (i := 1179) (by decide +kernel), List.mem_of_getElem? (i := 1180) (by decide +kernel)⟩
theorem lw_p88 : lw_okq (⟨"PolarPlanimeterModel", "follow", "(IZ)V"⟩, 18) := ⟨⟨by decide +kernel, by decide +kernel⟩, List.mem_of_getElem? (i := 960) (by decide +kernel), List.mem_of_getElem? (i := 1183) (by decide +kernel), List.mem_of_getElem? (i := 1184) (by decide +kernel)⟩
theorem lw_p89 : lw_okq (⟨"PolarPlanimeterModel", "sweptIn", "(III)J"⟩, 18) := ⟨⟨by decide +kernel, by decide +kernel⟩, List.mem_of_getElem? (i := 960) (by decide +kernel), List.mem_of_getElem? (i := 1187) (by decide +kernel), List.mem_of_getElem? (i := 1188) (by decide +kernel)⟩
theorem lw_p90 : lw_okq (⟨"PolarPlanimeterModel", "swept", "(JJJJ)J"⟩, 18) := ⟨⟨by decide +kernel, by decide +kernel⟩, List.mem_of_getElem? (i := 960) (by decide +kernel), List.mem_of_getElem? (i := 1191) (by decide +kernel), List.mem_of_getElem? (i := 1192) (by decide +kernel)⟩
theorem lw_p91 : lw_okq (⟨"PolarPlanimeterModel", "layElbow", "(JJ)V"⟩, 18) := ⟨⟨by decide +kernel, by decide +kernel⟩, List.mem_of_getElem? (i := 960) (by decide +kernel), List.mem_of_getElem? (i := 1195) (by decide +kernel), List.mem_of_getElem? (i := 1196) (by decide +kernel)⟩
theorem lw_p92 : lw_okq (⟨"PolarPlanimeterModel", "rollOn", "(IJ)V"⟩, 18) := ⟨⟨by decide +kernel, by decide +kernel⟩, List.mem_of_getElem? (i := 960) (by decide +kernel), List.mem_of_getElem? (i := 1199) (by decide +kernel), List.mem_of_getElem? (i := 1200) (by decide +kernel)⟩
theorem lw_p93 : lw_okq (⟨"PolarPlanimeterModel", "slip", "(I)J"⟩, 18) := ⟨⟨by decide +kernel, by decide +kernel⟩, List.mem_of_getElem? (i := 960) (by decide +kernel), List.mem_of_getElem? (i := 1204) (by decide +kernel), List.mem_of_getElem? (i := 1205) (by decide +kernel)⟩
theorem lw_p94 : lw_okq (⟨"PolarPlanimeterModel", "readText", "()I"⟩, 18) := ⟨⟨by decide +kernel, by decide +kernel⟩, List.mem_of_getElem? (i := 960) (by decide +kernel), List.mem_of_getElem? (i := 1230) (by decide +kernel), List.mem_of_getElem? (i := 1231) (by decide +kernel)⟩
theorem lw_p95 : lw_okq (⟨"PolarPlanimeterModel", "goesOn", "(I)Z"⟩, 18) := ⟨⟨by decide +kernel, by decide +kernel⟩, List.mem_of_getElem? (i := 960) (by decide +kernel), List.mem_of_getElem? (i := 1234) (by decide +kernel), List.mem_of_getElem? (i := 1235) (by decide +kernel)⟩
def lw_privs_6 : List (MethodName × Nat) := [(⟨"PolarPlanimeterModel", "isReached", "(I)Z"⟩, 18), (⟨"PolarPlanimeterModel", "steps", "(I)I"⟩, 18), (⟨"PolarPlanimeterModel", "of", "(I)J"⟩, 18), (⟨"PolarPlanimeterModel", "pointX", "(II)J"⟩, 18), (⟨"PolarPlanimeterModel", "pointY", "(II)J"⟩, 18), (⟨"PolarPlanimeterModel", "reaches", "(JJ)Z"⟩, 18), (⟨"PolarPlanimeterModel", "make", "(IZ)V"⟩, 18), (⟨"PolarPlanimeterModel", "sumOf", "(IZ)J"⟩, 18), (⟨"PolarPlanimeterModel", "follow", "(IZ)V"⟩, 18), (⟨"PolarPlanimeterModel", "sweptIn", "(III)J"⟩, 18), (⟨"PolarPlanimeterModel", "swept", "(JJJJ)J"⟩, 18), (⟨"PolarPlanimeterModel", "layElbow", "(JJ)V"⟩, 18), (⟨"PolarPlanimeterModel", "rollOn", "(IJ)V"⟩, 18), (⟨"PolarPlanimeterModel", "slip", "(I)J"⟩, 18), (⟨"PolarPlanimeterModel", "readText", "()I"⟩, 18), (⟨"PolarPlanimeterModel", "goesOn", "(I)Z"⟩, 18)]
theorem lw_r6 : ∀ q ∈ lw_privs_6, lw_okq q := List.forall_mem_cons.mpr ⟨lw_p80, List.forall_mem_cons.mpr ⟨lw_p81, List.forall_mem_cons.mpr ⟨lw_p82, List.forall_mem_cons.mpr ⟨lw_p83, List.forall_mem_cons.mpr ⟨lw_p84, List.forall_mem_cons.mpr ⟨lw_p85, List.forall_mem_cons.mpr ⟨lw_p86, List.forall_mem_cons.mpr ⟨lw_p87, List.forall_mem_cons.mpr ⟨lw_p88, List.forall_mem_cons.mpr ⟨lw_p89, List.forall_mem_cons.mpr ⟨lw_p90, List.forall_mem_cons.mpr ⟨lw_p91, List.forall_mem_cons.mpr ⟨lw_p92, List.forall_mem_cons.mpr ⟨lw_p93, List.forall_mem_cons.mpr ⟨lw_p94, List.forall_mem_cons.mpr ⟨lw_p95, fun _ h => absurd h List.not_mem_nil⟩⟩⟩⟩⟩⟩⟩⟩⟩⟩⟩⟩⟩⟩⟩⟩
theorem lw_p96 : lw_okq (⟨"PolarPlanimeterModel", "endNumber", "()V"⟩, 18) := ⟨⟨by decide +kernel, by decide +kernel⟩, List.mem_of_getElem? (i := 960) (by decide +kernel), List.mem_of_getElem? (i := 1238) (by decide +kernel), List.mem_of_getElem? (i := 1239) (by decide +kernel)⟩
theorem lw_p97 : lw_okq (⟨"PolarPlanimeterModel", "begins", "(I)Z"⟩, 18) := ⟨⟨by decide +kernel, by decide +kernel⟩, List.mem_of_getElem? (i := 960) (by decide +kernel), List.mem_of_getElem? (i := 1244) (by decide +kernel), List.mem_of_getElem? (i := 1245) (by decide +kernel)⟩
theorem lw_p98 : lw_okq (⟨"PolarPlanimeterModel", "cornerNow", "(II)J"⟩, 18) := ⟨⟨by decide +kernel, by decide +kernel⟩, List.mem_of_getElem? (i := 960) (by decide +kernel), List.mem_of_getElem? (i := 1262) (by decide +kernel), List.mem_of_getElem? (i := 1263) (by decide +kernel)⟩
theorem lw_p99 : lw_okq (⟨"PolarPlanimeterModel", "roll", "(I)J"⟩, 18) := ⟨⟨by decide +kernel, by decide +kernel⟩, List.mem_of_getElem? (i := 960) (by decide +kernel), List.mem_of_getElem? (i := 1266) (by decide +kernel), List.mem_of_getElem? (i := 1267) (by decide +kernel)⟩
theorem lw_p100 : lw_okq (⟨"PolarPlanimeterModel", "madeNow", "(II)J"⟩, 18) := ⟨⟨by decide +kernel, by decide +kernel⟩, List.mem_of_getElem? (i := 960) (by decide +kernel), List.mem_of_getElem? (i := 1274) (by decide +kernel), List.mem_of_getElem? (i := 1275) (by decide +kernel)⟩
theorem lw_p101 : lw_okq (⟨"PolarPlanimeterModel", "areaOf", "(I)J"⟩, 18) := ⟨⟨by decide +kernel, by decide +kernel⟩, List.mem_of_getElem? (i := 960) (by decide +kernel), List.mem_of_getElem? (i := 1278) (by decide +kernel), List.mem_of_getElem? (i := 1279) (by decide +kernel)⟩
theorem lw_p102 : lw_okq (⟨"PolarPlanimeterModel", "constant", "()J"⟩, 18) := ⟨⟨by decide +kernel, by decide +kernel⟩, List.mem_of_getElem? (i := 960) (by decide +kernel), List.mem_of_getElem? (i := 1282) (by decide +kernel), List.mem_of_getElem? (i := 1283) (by decide +kernel)⟩
theorem lw_p103 : lw_okq (⟨"PolarPlanimeterModel", "winding", "()J"⟩, 18) := ⟨⟨by decide +kernel, by decide +kernel⟩, List.mem_of_getElem? (i := 960) (by decide +kernel), List.mem_of_getElem? (i := 1286) (by decide +kernel), List.mem_of_getElem? (i := 1287) (by decide +kernel)⟩
theorem lw_p104 : lw_okq (⟨"PolarPlanimeterModel", "layMean", "()V"⟩, 18) := ⟨⟨by decide +kernel, by decide +kernel⟩, List.mem_of_getElem? (i := 960) (by decide +kernel), List.mem_of_getElem? (i := 1293) (by decide +kernel), List.mem_of_getElem? (i := 1294) (by decide +kernel)⟩
theorem lw_p105 : lw_okq (⟨"PolarPlanimeterModel", "left", "()I"⟩, 18) := ⟨⟨by decide +kernel, by decide +kernel⟩, List.mem_of_getElem? (i := 960) (by decide +kernel), List.mem_of_getElem? (i := 1297) (by decide +kernel), List.mem_of_getElem? (i := 1298) (by decide +kernel)⟩
theorem lw_p106 : lw_okq (⟨"PolarPlanimeterModel", "middle", "()J"⟩, 18) := ⟨⟨by decide +kernel, by decide +kernel⟩, List.mem_of_getElem? (i := 960) (by decide +kernel), List.mem_of_getElem? (i := 1301) (by decide +kernel), List.mem_of_getElem? (i := 1302) (by decide +kernel)⟩
theorem lw_p107 : lw_okq (⟨"PolarPlanimeterModel", "elbowNow", "(JJI)J"⟩, 18) := ⟨⟨by decide +kernel, by decide +kernel⟩, List.mem_of_getElem? (i := 960) (by decide +kernel), List.mem_of_getElem? (i := 1311) (by decide +kernel), List.mem_of_getElem? (i := 1312) (by decide +kernel)⟩
theorem lw_p108 : lw_okq (⟨"PolarPlanimeterModel", "counted", "(I)J"⟩, 18) := ⟨⟨by decide +kernel, by decide +kernel⟩, List.mem_of_getElem? (i := 960) (by decide +kernel), List.mem_of_getElem? (i := 1320) (by decide +kernel), List.mem_of_getElem? (i := 1321) (by decide +kernel)⟩
theorem lw_p109 : lw_okq (⟨"PolarPlanimeterModel", "twiceArea", "()J"⟩, 18) := ⟨⟨by decide +kernel, by decide +kernel⟩, List.mem_of_getElem? (i := 960) (by decide +kernel), List.mem_of_getElem? (i := 1324) (by decide +kernel), List.mem_of_getElem? (i := 1325) (by decide +kernel)⟩
theorem lw_p110 : lw_okq (⟨"PolarPlanimeterModel", "mean", "()J"⟩, 18) := ⟨⟨by decide +kernel, by decide +kernel⟩, List.mem_of_getElem? (i := 960) (by decide +kernel), List.mem_of_getElem? (i := 1328) (by decide +kernel), List.mem_of_getElem? (i := 1329) (by decide +kernel)⟩
theorem lw_p111 : lw_okq (⟨"PolarPlanimeterModel", "outs", "()J"⟩, 18) := ⟨⟨by decide +kernel, by decide +kernel⟩, List.mem_of_getElem? (i := 960) (by decide +kernel), List.mem_of_getElem? (i := 1332) (by decide +kernel), List.mem_of_getElem? (i := 1333) (by decide +kernel)⟩
def lw_privs_7 : List (MethodName × Nat) := [(⟨"PolarPlanimeterModel", "endNumber", "()V"⟩, 18), (⟨"PolarPlanimeterModel", "begins", "(I)Z"⟩, 18), (⟨"PolarPlanimeterModel", "cornerNow", "(II)J"⟩, 18), (⟨"PolarPlanimeterModel", "roll", "(I)J"⟩, 18), (⟨"PolarPlanimeterModel", "madeNow", "(II)J"⟩, 18), (⟨"PolarPlanimeterModel", "areaOf", "(I)J"⟩, 18), (⟨"PolarPlanimeterModel", "constant", "()J"⟩, 18), (⟨"PolarPlanimeterModel", "winding", "()J"⟩, 18), (⟨"PolarPlanimeterModel", "layMean", "()V"⟩, 18), (⟨"PolarPlanimeterModel", "left", "()I"⟩, 18), (⟨"PolarPlanimeterModel", "middle", "()J"⟩, 18), (⟨"PolarPlanimeterModel", "elbowNow", "(JJI)J"⟩, 18), (⟨"PolarPlanimeterModel", "counted", "(I)J"⟩, 18), (⟨"PolarPlanimeterModel", "twiceArea", "()J"⟩, 18), (⟨"PolarPlanimeterModel", "mean", "()J"⟩, 18), (⟨"PolarPlanimeterModel", "outs", "()J"⟩, 18)]
theorem lw_r7 : ∀ q ∈ lw_privs_7, lw_okq q := List.forall_mem_cons.mpr ⟨lw_p96, List.forall_mem_cons.mpr ⟨lw_p97, List.forall_mem_cons.mpr ⟨lw_p98, List.forall_mem_cons.mpr ⟨lw_p99, List.forall_mem_cons.mpr ⟨lw_p100, List.forall_mem_cons.mpr ⟨lw_p101, List.forall_mem_cons.mpr ⟨lw_p102, List.forall_mem_cons.mpr ⟨lw_p103, List.forall_mem_cons.mpr ⟨lw_p104, List.forall_mem_cons.mpr ⟨lw_p105, List.forall_mem_cons.mpr ⟨lw_p106, List.forall_mem_cons.mpr ⟨lw_p107, List.forall_mem_cons.mpr ⟨lw_p108, List.forall_mem_cons.mpr ⟨lw_p109, List.forall_mem_cons.mpr ⟨lw_p110, List.forall_mem_cons.mpr ⟨lw_p111, fun _ h => absurd h List.not_mem_nil⟩⟩⟩⟩⟩⟩⟩⟩⟩⟩⟩⟩⟩⟩⟩⟩
theorem lw_p112 : lw_okq (⟨"PolarPlanimeterModel", "difference", "()J"⟩, 18) := ⟨⟨by decide +kernel, by decide +kernel⟩, List.mem_of_getElem? (i := 960) (by decide +kernel), List.mem_of_getElem? (i := 1336) (by decide +kernel), List.mem_of_getElem? (i := 1337) (by decide +kernel)⟩
theorem lw_p113 : lw_okq (⟨"PolarPlanimeterModel", "allSteps", "()J"⟩, 18) := ⟨⟨by decide +kernel, by decide +kernel⟩, List.mem_of_getElem? (i := 960) (by decide +kernel), List.mem_of_getElem? (i := 1340) (by decide +kernel), List.mem_of_getElem? (i := 1341) (by decide +kernel)⟩
theorem lw_p114 : lw_okq (⟨"PolarPlanimeterModel", "sumWith", "(IZII)J"⟩, 18) := ⟨⟨by decide +kernel, by decide +kernel⟩, List.mem_of_getElem? (i := 960) (by decide +kernel), List.mem_of_getElem? (i := 1356) (by decide +kernel), List.mem_of_getElem? (i := 1357) (by decide +kernel)⟩
theorem lw_p115 : lw_okq (⟨"PolarPlanimeterModel", "leastNow", "()I"⟩, 18) := ⟨⟨by decide +kernel, by decide +kernel⟩, List.mem_of_getElem? (i := 960) (by decide +kernel), List.mem_of_getElem? (i := 1364) (by decide +kernel), List.mem_of_getElem? (i := 1365) (by decide +kernel)⟩
theorem lw_p116 : lw_okq (⟨"PolarPlanimeterModel", "errorNow", "()D"⟩, 18) := ⟨⟨by decide +kernel, by decide +kernel⟩, List.mem_of_getElem? (i := 960) (by decide +kernel), List.mem_of_getElem? (i := 1372) (by decide +kernel), List.mem_of_getElem? (i := 1373) (by decide +kernel)⟩
theorem lw_p117 : lw_okq (⟨"PolarPlanimeterModel", "mix", "(J)V"⟩, 18) := ⟨⟨by decide +kernel, by decide +kernel⟩, List.mem_of_getElem? (i := 960) (by decide +kernel), List.mem_of_getElem? (i := 1381) (by decide +kernel), List.mem_of_getElem? (i := 1382) (by decide +kernel)⟩
def lw_privs_8 : List (MethodName × Nat) := [(⟨"PolarPlanimeterModel", "difference", "()J"⟩, 18), (⟨"PolarPlanimeterModel", "allSteps", "()J"⟩, 18), (⟨"PolarPlanimeterModel", "sumWith", "(IZII)J"⟩, 18), (⟨"PolarPlanimeterModel", "leastNow", "()I"⟩, 18), (⟨"PolarPlanimeterModel", "errorNow", "()D"⟩, 18), (⟨"PolarPlanimeterModel", "mix", "(J)V"⟩, 18)]
theorem lw_r8 : ∀ q ∈ lw_privs_8, lw_okq q := List.forall_mem_cons.mpr ⟨lw_p112, List.forall_mem_cons.mpr ⟨lw_p113, List.forall_mem_cons.mpr ⟨lw_p114, List.forall_mem_cons.mpr ⟨lw_p115, List.forall_mem_cons.mpr ⟨lw_p116, List.forall_mem_cons.mpr ⟨lw_p117, fun _ h => absurd h List.not_mem_nil⟩⟩⟩⟩⟩⟩
def lw_privs : List (MethodName × Nat) := lw_privs_1 ++ (lw_privs_2 ++ (lw_privs_3 ++ (lw_privs_4 ++ (lw_privs_5 ++ (lw_privs_6 ++ (lw_privs_7 ++ (lw_privs_8)))))))
def lw_tbl : List Cond := k2_sels lw_privs ++ tables_1
theorem lw_privs_ok : ∀ q ∈ lw_privs, lw_okq q := by
  show ∀ q ∈ lw_privs_1 ++ (lw_privs_2 ++ (lw_privs_3 ++ (lw_privs_4 ++ (lw_privs_5 ++ (lw_privs_6 ++ (lw_privs_7 ++ (lw_privs_8))))))), lw_okq q
  exact List.forall_mem_append.mpr ⟨lw_r1, List.forall_mem_append.mpr ⟨lw_r2, List.forall_mem_append.mpr ⟨lw_r3, List.forall_mem_append.mpr ⟨lw_r4, List.forall_mem_append.mpr ⟨lw_r5, List.forall_mem_append.mpr ⟨lw_r6, List.forall_mem_append.mpr ⟨lw_r7, lw_r8⟩⟩⟩⟩⟩⟩⟩
/-- the streams that the claim lets the run draw from -/
abbrev lw_cs : List Choice := [Jvm.Choice.named "NaN.bits"]
theorem lw_bits : nanBits ∈ lw_cs := by first | decide | exact List.mem_cons_self | simp [lw_cs, nanBits]
-- ===== end of PART A; then your names; then what follows =====
end
section
/-! ===== BEGIN words of one list among another's, by their places ===== -/
theorem goodIn_r {big : List Cond} (ws : List Cond) (ps : List Nat) (hp : ws = ps.filterMap (fun i => big[i]?)) (h : ws.all goodWord = true) : GoodIn big ws := by
  intro w hw
  have h1 := List.all_eq_true.mp h w hw
  rw [hp] at hw
  obtain ⟨i, -, hi⟩ := List.mem_filterMap.mp hw
  have hm : w ∈ big := by first | exact List.mem_of_getElem? hi | exact List.getElem?_mem hi
  exact ⟨hm, good_of_word h1⟩
theorem goodIn_app {big a b : List Cond} (ha : GoodIn big a) (hb : GoodIn big b) : GoodIn big (a ++ b) := fun w h => (List.mem_append.mp h).elim (ha w) (hb w)
theorem goodIn_ca {big a b : List Cond} {c : Cond} (ha : GoodIn big (c :: a)) (hb : GoodIn big b) : GoodIn big (c :: (a ++ b)) := fun w h => (List.mem_cons.mp h).elim (fun e => ha w (List.mem_cons.mpr (Or.inl e))) (fun h => (List.mem_append.mp h).elim (fun h => ha w (List.mem_cons.mpr (Or.inr h))) (hb w))
theorem goodIn_sub {big ws : List Cond} (hm : ∀ w ∈ ws, w ∈ big) (h : ws.all goodWord = true) : GoodIn big ws := fun w hw => ⟨hm w hw, good_of_word (List.all_eq_true.mp h w hw)⟩
/-! ===== END ===== -/

/-! ===== BEGIN exceptions that leave a method, and their catching by the caller (launches without stack traces) ===== -/
section VXA
/-! The laws vx_back, vx_callV, vx_callS, vx_callSW, vx_throw0, vx_throwS follow proofs of the library, with one case more: JvmDerived/Free/Laws.lean (Back.of_free), Shelf42/LK1.lean (callV, callS), Shelf/KitTraced.lean (throwNew0V, throwNewS). -/
/-- where a method has thrown q: the class by its name, the cell, what was written, the world -/
def vx_T (XC : String → State → State → Prop) (st : State) (q : Addr) (t : State) (mc ms : Nat) (free : Addr → Prop) : Prop :=
  ∃ (E : String) (ce : Cell) (L : List Loc), XC E st t ∧ t.heap[q]? = some ce ∧ ce.vm = .none ∧ st.vm.findClass E = some ce.cls ∧ st.WarmedH t.vm ∧ st.sameButNew ({ t with vm := st.vm } : State) L mc ms ∧ ∀ z ∈ L, free z.base
def vx_Q (Qc : Array Value → State → Outcome → State → Prop) (XC : String → State → State → Prop) (mc ms : Nat) (free : Addr → Prop) : Array Value → State → Outcome → State → Prop := fun a st o t =>
  (Qc a st o t ∧ ∃ L, FrameEnd st o t L mc ms ∧ ∀ q ∈ L, free q.base) ∨ ∃ q, o = .threw q ∧ vx_T XC st q t mc ms free
/-- a callee that returns or throws -/
def vx_Met (l : Launch) (y : MethodName) (ws : List Cond) (rm : Room) (Pc : Array Value → State → Prop) (Qc : Array Value → State → Outcome → State → Prop) (XC : String → State → State → Prop) (mc ms : Nat) (free : Addr → Prop) : Prop :=
  MetFree l y (headSpec ws rm) Pc (fun _ _ _ _ _ => True) (vx_Q Qc XC mc ms free)
def vx_Post (XC : String → State → State → Prop) (mc ms : Nat) (free : Addr → Prop) : Pt → Array Value → Addr → Pt → Prop := fun A a q B =>
  ∃ (g : JFrame) (mk : MethodId) (t : State) (L : List Loc) (E : String) (ce : Cell), B.U.heap = t.heap ∧ B.U.vm = t.vm ∧ XC E (A.U.calling g mk a) t ∧ t.heap[q]? = some ce ∧ ce.vm = .none ∧ A.U.vm.findClass E = some ce.cls ∧ B.locs = A.locs ++ L ∧ (∀ z ∈ L, free z.base) ∧ B.cells = A.cells + mc ∧ B.slots = A.slots + ms
def vx_Back (l : Launch) (R : Room) (p : Program) (e : Env) (below : List Frame) (s : State) (sargs : Array Value) (y : MethodName) (len W9 : Nat)
    (Pre : Pt → Array Value → Prop) (Post : Pt → Array Value → Option Value → Pt → Prop) (PostX : Pt → Array Value → Addr → Pt → Prop) : Prop :=
  ∀ (m : MethodId) (meth : Method) (c : Code) (A : Pt) (g : JFrame) (ig : Instr) (mk : MethodId) (a : Array Value),
    Stand p l e R s m sargs below meth c A.U A.locs A.cells A.slots → g.method = m → g.locals.size = c.maxLocals → decode c.code g.pc = .ok (ig, len) →
    2 * g.monitorRoom + (g.stack.map fun v => v.category).sum ≤ W9 → A.U.methodNamed? y = some mk → Pre A a →
    (∃ (v : Option Value) (B : Pt), Stand p l e R s m sargs below meth c B.U B.locs B.cells B.slots ∧ Post A a v B ∧
      Steps p.tables e below (doInvoke e (A.U.setTop g) [] mk a).1 (B.U.setTop { g with pc := g.pc + len, stack := v.toList ++ g.stack })) ∨
    (∃ (q : Addr) (B : Pt), Stand p l e R s m sargs below meth c B.U B.locs B.cells B.slots ∧ PostX A a q B ∧
      Steps p.tables e below (doInvoke e (A.U.setTop g) [] mk a).1 ((B.U.setTop g).pushFrame (.throwing q)))
section Payer
variable {l : Launch} {R : Room} {p : Program} {e : Env} {below : List Frame} {s : State} {sargs : Array Value} {y : MethodName} {len W9 : Nat}
theorem vx_back {ws : List Cond} {rm : Room} {Pc : Array Value → State → Prop} {Qc : Array Value → State → Outcome → State → Prop} {XC : String → State → State → Prop} {mc ms : Nat} {free : Addr → Prop} {bytes : ByteArray} {maxL : Nat} {ret : Option FieldType}
    (hM : vx_Met l y ws rm Pc Qc XC mc ms free) (hblind : FrameBlind Pc) (hrc : rm.cells = mc) (hrs : rm.slots = ms)
    (hframes : rm.frames + 1 ≤ R.frames) (hlocals : W9 + (maxL + 11) + rm.locals ≤ R.locals)
    (hws : ∀ w ∈ ws, ∀ a' U, s.WarmedH U.vm → w.before a' U = true) (hcode : Cond.code y bytes maxL ret ∈ ws) (hinit : ∀ a' U, s.WarmedH U.vm → (Cond.initialized y.cls).before a' U = true) :
    vx_Back l R p e below s sargs y len W9 (PreOf R mc ms Pc) (PostOf Qc mc ms free) (vx_Post XC mc ms free) := by
  intro m meth c A g ig mk a X hg hsize hdg hW hn hp
  have h1 : (headSpec ws rm).pre.before a A.U = true := atoms_intro fun w hw => hws w hw _ _ X.warmed
  have h2 : (Cond.code y bytes maxL ret).before a A.U = true := hws _ hcode _ _ X.warmed
  have h3 : (Cond.initialized y.cls).before a A.U = true := hinit _ _ X.warmed
  have h4 : A.cells + (headSpec ws rm).room.cells ≤ R.cells := by rw [show (headSpec ws rm).room.cells = mc from hrc]; exact hp.1
  have h5 : A.slots + (headSpec ws rm).room.slots ≤ R.slots := by rw [show (headSpec ws rm).room.slots = ms from hrs]; exact hp.2.1
  have hPc : Pc a (A.U.calling g mk a) := hblind _ _ _ _ hp.2.2
  obtain ⟨U, Ls, c0, s0⟩ := A
  dsimp only [Pt.U, Pt.locs, Pt.cells, Pt.slots] at h1 h2 h3 h4 h5 X hn hPc ⊢
  obtain ⟨methY, cY, hmY, hcY, -, hlY, -, -, -, -⟩ := Cond.code_spec hn h2
  obtain ⟨kY, hkY, -⟩ := className_of_methodNamed hn
  have hinitY : kY.init = .initialized := Cond.initialized_spec (findClass_of_methodNamed hn) hkY h3
  have h : At U g.method c below := by rw [hg]; exact X.here
  have hlocals9 : W9 + (maxL + 11) + (headSpec ws rm).room.locals ≤ R.locals := hlocals
  have happ : (headSpec ws rm).appliesLoose y e.platform (U.calling g mk a) = true :=
    Spec.appliesLoose_calling (g := g) h hdg hn hkY hinitY
      (X.room_calling (g := g) (R' := (headSpec ws rm).room) hsize hmY hcY hframes (by rw [hlY]; omega) h4 h5) h1
  obtain ⟨mid, hmid⟩ := h.above
  have hfr : (U.setTop g).frames = (.java g :: mid) ++ below := by rw [State.frames_setTop' g h.top, hmid]; rfl
  obtain ⟨o, s₂, hsteps, -, hend, hq⟩ := Steps.callFree hM p X.admits X.cas X.clock (acts := []) hfr happ hPc trivial
  have hq' : vx_Q Qc XC mc ms free a (U.calling g mk a) o s₂ := hq
  rw [State.frames_setTop' g h.top] at hend
  obtain ⟨g₀, hg0⟩ := Option.isSome_iff_exists.mp h.top
  obtain ⟨r, hr⟩ := State.topJava?_eq_some.mp hg0
  have hr' : (({ U with heap := s₂.heap, slotsUsed := s₂.slotsUsed } : State).setVm s₂.vm).frames = .java g₀ :: r := hr
  rcases hq' with ⟨hqc, L, hfe, hL⟩ | ⟨q, rfl, E, ce, L, hx, hce, hcv, hcl, hW₂, hsm, hL⟩
  · obtain ⟨⟨v, rfl⟩, hW₂, e2, q2, q3, q4, q5, q6⟩ := id hfe
    have e3 : s₂ = ({ (U.calling g mk a).setFrames s₂.frames with heap := s₂.heap, slotsUsed := s₂.slotsUsed } : State).setVm s₂.vm := by
      have : s₂ = ({ s₂ with vm := (U.calling g mk a).vm } : State).setVm s₂.vm := rfl
      rw [e2] at this
      exact this
    obtain ⟨c₂, i₂, len₂, hc₂, hd₂, hf₂⟩ := hend
    have hW' : U.WarmedH s₂.vm := hW₂
    have hcc : c₂ = c := by
      have h1 : s₂.code? g.method = U.code? g.method := by
        rw [State.code?_eq, State.code?_eq, hW'.alike.method?]
      exact Option.some.inj (hc₂.symm.trans (h1.trans h.code))
    subst hcc
    have hlen : len₂ = len := by rw [hdg] at hd₂; cases hd₂; rfl
    subst hlen
    have hs₂ : s₂ = (({ U with heap := s₂.heap, slotsUsed := s₂.slotsUsed } : State).setVm s₂.vm).setTop { g with pc := g.pc + len₂, stack := v.toList ++ g.stack } := by
      refine e3.trans ?_
      rw [hf₂, State.calling_eq h.top, State.setFrames_setFrames, State.setTop_of_frames _ hr', hr]
      rfl
    have hsame : U.sameButNew ({ U with heap := s₂.heap, slotsUsed := s₂.slotsUsed } : State) L mc ms := by
      refine ⟨?_, q2, q3, q4, q5, q6⟩
      obtain ⟨t, ht, -⟩ := State.frames_cons hr
      show ({ U with heap := s₂.heap, slotsUsed := s₂.slotsUsed } : State) = { U.setFrames U.frames with heap := s₂.heap, slotsUsed := s₂.slotsUsed }
      rw [State.setFrames_self ht]
    subst hg
    refine Or.inl ⟨v, ⟨(({ U with heap := s₂.heap, slotsUsed := s₂.slotsUsed } : State).setVm s₂.vm), Ls ++ L, c0 + mc, s0 + ms⟩,
      ⟨X.admits, X.cas, X.clock, X.frames, X.room, X.hears, X.method, X.code, (X.here.setHeapUsed s₂.heap s₂.slotsUsed).setVm hW'.alike, X.tail, State.WarmedH.trans X.warmed hW', X.limits, X.bytes, X.same.trans (hsame.setVm s.vm)⟩,
      ⟨g, mk, s₂, L, rfl, rfl, hqc, rfl, hL, rfl, rfl⟩, ?_⟩
    show Steps p.tables e below _ ((({ U with heap := s₂.heap, slotsUsed := s₂.slotsUsed } : State).setVm s₂.vm).setTop { g with pc := g.pc + len₂, stack := v.toList ++ g.stack })
    rw [← hs₂]
    exact hsteps
  · obtain ⟨e2, q2, q3, q4, q5, q6⟩ := id hsm
    have e3 : s₂ = ({ (U.calling g mk a).setFrames s₂.frames with heap := s₂.heap, slotsUsed := s₂.slotsUsed } : State).setVm s₂.vm := by
      have : s₂ = ({ s₂ with vm := (U.calling g mk a).vm } : State).setVm s₂.vm := rfl
      rw [e2] at this
      exact this
    have hf₂ : s₂.frames = .throwing q :: .java g :: U.frames.tail := hend
    have hW' : U.WarmedH s₂.vm := hW₂
    have hs₂ : s₂ = ((({ U with heap := s₂.heap, slotsUsed := s₂.slotsUsed } : State).setVm s₂.vm).setTop g).pushFrame (.throwing q) := by
      refine e3.trans ?_
      rw [hf₂, State.calling_eq h.top, State.setFrames_setFrames, State.pushFrame, State.frames_setTop _ hr', State.setTop_of_frames _ hr', State.setFrames_setFrames, hr]
      rfl
    have hsame : U.sameButNew ({ U with heap := s₂.heap, slotsUsed := s₂.slotsUsed } : State) L mc ms := by
      refine ⟨?_, q2, q3, q4, q5, q6⟩
      obtain ⟨t, ht, -⟩ := State.frames_cons hr
      show ({ U with heap := s₂.heap, slotsUsed := s₂.slotsUsed } : State) = { U.setFrames U.frames with heap := s₂.heap, slotsUsed := s₂.slotsUsed }
      rw [State.setFrames_self ht]
    subst hg
    refine Or.inr ⟨q, ⟨(({ U with heap := s₂.heap, slotsUsed := s₂.slotsUsed } : State).setVm s₂.vm), Ls ++ L, c0 + mc, s0 + ms⟩,
      ⟨X.admits, X.cas, X.clock, X.frames, X.room, X.hears, X.method, X.code, (X.here.setHeapUsed s₂.heap s₂.slotsUsed).setVm hW'.alike, X.tail, State.WarmedH.trans X.warmed hW', X.limits, X.bytes, X.same.trans (hsame.setVm s.vm)⟩,
      ⟨g, mk, s₂, L, E, ce, rfl, rfl, hx, hce, hcv, hcl, rfl, hL, rfl, rfl⟩, ?_⟩
    show Steps p.tables e below _ (((({ U with heap := s₂.heap, slotsUsed := s₂.slotsUsed } : State).setVm s₂.vm).setTop g).pushFrame (.throwing q))
    rw [← hs₂]
    exact hsteps
end Payer
section Calls
variable {p : Program} {l : Launch} {e : Env} {R : Room} {s : State} {m : MethodId} {args : Array Value} {below : List Frame} {meth : Method} {c : Code} {T : State} {locs : List Loc} {cells slots : Nat}
theorem vx_callV (X : Stand p l e R s m args below meth c T locs cells slots) (hexec : p.tables.exec = Jvm.exec) {own C : String} {index : Nat} {y : MethodName} {bytes : ByteArray} {maxL : Nat} {ret : Option FieldType}
    (hown : s.vm.findClass own = some m.cls) (hlink : (Cond.methodLink own index y).before args s = true) (hinst : (Cond.instanceMethod y).before args s = true) (hsel : (Cond.selects C y y).before args s = true)
    (hcode : (Cond.code y bytes maxL ret).before args s = true) (hy : y.cls ≠ "java/lang/invoke/MethodHandle" ∧ y.cls ≠ "java/lang/invoke/VarHandle")
    {W9 : Nat} {Pre : Pt → Array Value → Prop} {Post : Pt → Array Value → Option Value → Pt → Prop} {PostX : Pt → Array Value → Addr → Pt → Prop} (hK : vx_Back l R p e below s args y 3 W9 Pre Post PostX)
    {b : Addr} {cellB : Cell} (hcell : T.heap[b]? = some cellB) (hobj : cellB.vm.isStatics = false) (hcls : s.vm.findClass C = some cellB.cls)
    {g : JFrame} (hg : g.method = m) (hsize : g.locals.size = c.maxLocals) {argsL rest : List Value} (hlen : ∀ sig, parseMethodDescriptor y.desc = some sig → argsL.length = sig.parameters.length)
    (hstack : g.stack = argsL.reverse ++ .ref b :: rest) (hW : 2 * g.monitorRoom + (rest.map fun v => v.category).sum ≤ W9) (hdg : decode c.code g.pc = .ok (.invokevirtual index, 3))
    (hpre : ∀ vm₁, s.WarmedH vm₁ → Pre ⟨T.setVm vm₁, locs, cells, slots⟩ (Value.ref b :: argsL).toArray) :
    (∃ (v : Option Value) (vm₁ : Vm) (B : Pt), s.WarmedH vm₁ ∧ Stand p l e R s m args below meth c B.U B.locs B.cells B.slots ∧ Post ⟨T.setVm vm₁, locs, cells, slots⟩ (Value.ref b :: argsL).toArray v B ∧
      ∀ target, Steps p.tables e below (B.U.setTop { g with pc := g.pc + 3, stack := v.toList ++ rest }) target → Steps p.tables e below (T.setTop g) target) ∨
    (∃ (q : Addr) (vm₁ : Vm) (B : Pt), s.WarmedH vm₁ ∧ Stand p l e R s m args below meth c B.U B.locs B.cells B.slots ∧ PostX ⟨T.setVm vm₁, locs, cells, slots⟩ (Value.ref b :: argsL).toArray q B ∧
      Steps p.tables e below (T.setTop g) ((B.U.setTop { g with stack := rest }).pushFrame (.throwing q))) := by
  obtain ⟨mk, methM, hnamed, hmethM, hstM, habM⟩ := Cond.instanceMethod_spec hinst
  obtain ⟨methM', cM, hmethM', -, -, -, -, -, -, hsigM⟩ := Cond.code_spec hnamed hcode
  cases hmethM.symm.trans hmethM'
  obtain ⟨c2, r2, m2, q1, q2, q3, q4, kP, hkP, hkPi⟩ := Cond.selects_spec hsel
  cases hcls.symm.trans q1
  cases (State.methodFound?_of_named hnamed hy).symm.trans q2
  cases hnamed.symm.trans q3
  have hselP : selectMethod e.platform s.vm cellB.cls mk = .method mk := by rw [Launch.admits_selectMethod X.admits]; exact q4
  obtain ⟨vm₁, X₁, hstep₁⟩ := X.invokevirtual hexec hown hlink hnamed hmethM hstM hkP hkPi hy (a := b) (cell := cellB) hcell
    (fun z h => by rw [h] at hobj; cases hobj) hselP hmethM habM hkP hkPi (g := g) hg (argsL := argsL) (rest := rest) (hlen _ hsigM) hstack hdg
  rcases hK m meth c ⟨T.setVm vm₁, locs, cells, slots⟩ { g with stack := rest } (.invokevirtual index) mk (Value.ref b :: argsL).toArray X₁ hg hsize hdg hW (X₁.named hnamed) (hpre vm₁ X₁.warmed) with ⟨v, B, X', hpost, hsteps⟩ | ⟨q, B, X', hpost, hsteps⟩
  · exact Or.inl ⟨v, vm₁, B, X₁.warmed, X', hpost, fun target h => hstep₁ _ fun acts => by rw [doInvoke_state]; exact hsteps.trans h⟩
  · exact Or.inr ⟨q, vm₁, B, X₁.warmed, X', hpost, hstep₁ _ fun acts => by rw [doInvoke_state]; exact hsteps⟩
theorem vx_callS (X : Stand p l e R s m args below meth c T locs cells slots) (hexec : p.tables.exec = Jvm.exec) {own : String} {index : Nat} {y : MethodName} {bytes : ByteArray} {maxL : Nat} {ret : Option FieldType}
    (hown : s.vm.findClass own = some m.cls) (hlink : (Cond.methodLink own index y).before args s = true) (hstat : (Cond.static y).before args s = true) (hinit : (Cond.initialized y.cls).before args s = true)
    (hcode : (Cond.code y bytes maxL ret).before args s = true) (hy : y.cls ≠ "java/lang/invoke/MethodHandle" ∧ y.cls ≠ "java/lang/invoke/VarHandle")
    {W9 : Nat} {Pre : Pt → Array Value → Prop} {Post : Pt → Array Value → Option Value → Pt → Prop} {PostX : Pt → Array Value → Addr → Pt → Prop} (hK : vx_Back l R p e below s args y 3 W9 Pre Post PostX)
    {g : JFrame} (hg : g.method = m) (hsize : g.locals.size = c.maxLocals) {argsL rest : List Value} (hlen : ∀ sig, parseMethodDescriptor y.desc = some sig → argsL.length = sig.parameters.length)
    (hstack : g.stack = argsL.reverse ++ rest) (hW : 2 * g.monitorRoom + (rest.map fun v => v.category).sum ≤ W9) (hdg : decode c.code g.pc = .ok (.invokestatic index, 3))
    (hpre : ∀ vm₁, s.WarmedH vm₁ → Pre ⟨T.setVm vm₁, locs, cells, slots⟩ argsL.toArray) :
    (∃ (v : Option Value) (vm₁ : Vm) (B : Pt), s.WarmedH vm₁ ∧ Stand p l e R s m args below meth c B.U B.locs B.cells B.slots ∧ Post ⟨T.setVm vm₁, locs, cells, slots⟩ argsL.toArray v B ∧
      ∀ target, Steps p.tables e below (B.U.setTop { g with pc := g.pc + 3, stack := v.toList ++ rest }) target → Steps p.tables e below (T.setTop g) target) ∨
    (∃ (q : Addr) (vm₁ : Vm) (B : Pt), s.WarmedH vm₁ ∧ Stand p l e R s m args below meth c B.U B.locs B.cells B.slots ∧ PostX ⟨T.setVm vm₁, locs, cells, slots⟩ argsL.toArray q B ∧
      Steps p.tables e below (T.setTop g) ((B.U.setTop { g with stack := rest }).pushFrame (.throwing q))) := by
  obtain ⟨mk, hnamed⟩ := Cond.code_named hcode
  obtain ⟨methM, cM, hmethM, -, -, -, -, -, -, hsigM⟩ := Cond.code_spec hnamed hcode
  have hstatic : methM.isStatic = true := Cond.static_spec hnamed hmethM hstat
  obtain ⟨kP, hkP, -⟩ := className_of_methodNamed hnamed
  have hinitP : kP.init = .initialized := Cond.initialized_spec (findClass_of_methodNamed hnamed) hkP hinit
  obtain ⟨vm₁, X₁, hstep₁⟩ := X.invokestatic hexec hown hlink hnamed hmethM hstatic hkP hinitP hy (g := g) hg (argsL := argsL) (rest := rest) (hlen _ hsigM) hstack hdg
  rcases hK m meth c ⟨T.setVm vm₁, locs, cells, slots⟩ { g with stack := rest } (.invokestatic index) mk argsL.toArray X₁ hg hsize hdg hW (X₁.named hnamed) (hpre vm₁ X₁.warmed) with ⟨v, B, X', hpost, hsteps⟩ | ⟨q, B, X', hpost, hsteps⟩
  · exact Or.inl ⟨v, vm₁, B, X₁.warmed, X', hpost, fun target h => hstep₁ _ fun acts => by rw [doInvoke_state]; exact hsteps.trans h⟩
  · exact Or.inr ⟨q, vm₁, B, X₁.warmed, X', hpost, hstep₁ _ fun acts => by rw [doInvoke_state]; exact hsteps⟩
end Calls
theorem vx_cls {s : State} {T : State} {vm₁ : Vm} {E : String} {k : ClassId} (hW : s.WarmedH vm₁) (h : (T.setVm vm₁).vm.findClass E = some k) : s.vm.findClass E = some k := by
  have h1 : vm₁.findClass E = some k := h
  rw [hW.alike.findClass] at h1
  exact h1
/-- the method's frame g, with q thrown over it -/
def vx_W (p : Program) (l : Launch) (e : Env) (R : Room) (s : State) (m : MethodId) (args : Array Value) (below : List Frame) (meth : Method) (c : Code) (H : Heap) (locs : List Loc) (cells slots : Nat) (Q : State → Prop) (g : JFrame) (q : Addr) : Prop :=
  ∀ T : State, T.heap = H → Stand p l e R s m args below meth c T locs cells slots → ∃ t, Steps p.tables e below ((T.setTop g).pushFrame (.throwing q)) t ∧ Q t
def vx_Run (p : Program) (l : Launch) (e : Env) (R : Room) (s : State) (m : MethodId) (args : Array Value) (below : List Frame) (meth : Method) (c : Code) (H : Heap) (locs : List Loc) (cells slots mc ms : Nat) (g : JFrame) (rest : List Value) (Qa : State → Outcome → State → Prop) (XC : String → State → State → Prop) (free : Addr → Prop) : Prop :=
  ∀ T : State, T.heap = H → Stand p l e R s m args below meth c T locs cells slots →
    (∃ (v : Option Value) (st₀ t T' : State) (L : List Loc), st₀.heap = H ∧ Stand p l e R s m args below meth c T' (locs ++ L) (cells + mc) (slots + ms) ∧ (∀ q ∈ L, free q.base) ∧ T'.heap = t.heap ∧ T'.vm = t.vm ∧ Qa st₀ (.returned v) t ∧
      Goes p e below T g T' { g with pc := g.pc + 3, stack := v.toList ++ rest }) ∨
    (∃ (q : Addr) (st₀ t T' : State) (L : List Loc) (E : String) (ce : Cell), st₀.heap = H ∧ Stand p l e R s m args below meth c T' (locs ++ L) (cells + mc) (slots + ms) ∧ (∀ z ∈ L, free z.base) ∧ T'.heap = t.heap ∧ T'.vm = t.vm ∧ XC E st₀ t ∧ t.heap[q]? = some ce ∧ ce.vm = .none ∧ s.vm.findClass E = some ce.cls ∧
      Steps p.tables e below (T.setTop g) ((T'.setTop { g with stack := rest }).pushFrame (.throwing q)))
def vx_X {S : Type} (px : S → Prop) (B : String → S → State → Prop) (A : Nat → Prop) : String → State → State → Prop := fun E st t => ∃ u : S, px u ∧ B E u t ∧ va_F A st t
section Runs
variable {p : Program} {l : Launch} {e : Env} {R : Room} {s : State} {m : MethodId} {args : Array Value} {below : List Frame} {meth : Method} {c : Code} {H : Heap} {locs : List Loc} {cells slots : Nat}
variable {y : MethodName} {bytes cc : ByteArray} {maxL nL mc ms n index : Nat} {ret : Option FieldType} {ws : List Cond} {rm : Room} {Pc : Array Value → State → Prop} {Qc : Array Value → State → Outcome → State → Prop} {XC : String → State → State → Prop} {free : Addr → Prop} {Ts : List Cond} {own C : String} {b : Addr} {As rest : List Value} {g : JFrame}
theorem vx_callBack (cb : CallB R s args own index y bytes maxL ret ws rm mc ms n) (hM : vx_Met l y ws rm Pc Qc XC mc ms free) (hbl : FrameBlind Pc) : vx_Back l R p e below s args y 3 8 (PreOf R mc ms Pc) (PostOf Qc mc ms free) (vx_Post XC mc ms free) := by
  obtain ⟨hrc, hrs, hfr, hlo, hws, hcw, -, hini, -⟩ := cb
  exact vx_back (bytes := bytes) (maxL := maxL) (ret := ret) hM hbl hrc hrs hfr hlo hws hcw (fun a' U hW => word_at hW (Or.inl (by first | rfl | simp [Cond.onTables, Cond.keeps, Cond.steady])) hini)
theorem vx_runV (S : CallFix p m c cc nL s args Ts own) (hM : vx_Met l y ws rm Pc Qc XC mc ms free) (cw : CallW R s args own C index y bytes maxL ret ws rm mc ms n) (hp : PreV s H C b Pc As)
    (hg : g.method = m) (hn : As.length = n) (hsize : g.locals.size = nL) (hstack : g.stack = As.reverse ++ .ref b :: rest) (hW : 2 * g.monitorRoom + (rest.map fun v => v.category).sum ≤ 8) (hdg : decode cc g.pc = .ok (.invokevirtual index, 3)) (hf : cells + mc ≤ R.cells ∧ slots + ms ≤ R.slots) :
    vx_Run p l e R s m args below meth c H locs cells slots mc ms g rest (Qc (Value.ref b :: As).toArray) XC free := by
  have hK : vx_Back l R p e below s args y 3 8 (PreOf R mc ms Pc) (PostOf Qc mc ms free) (vx_Post XC mc ms free) := vx_callBack cw.1 hM hp.1
  obtain ⟨⟨-, -, -, -, -, -, hcode, -, hy, hlen, hl⟩, hin, hse⟩ := cw
  obtain ⟨hx, hb, hml, ho, -⟩ := S
  obtain ⟨-, ⟨cellB, hcB, hoB, hclB⟩, hPc⟩ := hp
  intro T hT X
  rcases vx_callV X hx (C := C) (bytes := bytes) (maxL := maxL) (ret := ret) ho hl hin hse hcode hy hK (by rw [hT]; exact hcB) hoB hclB hg (hsize.trans hml.symm) (argsL := As) (rest := rest) (fun sig h => hn.trans (hlen sig h)) hstack hW (by rw [hb]; exact hdg)
    (fun vm₁ hW₁ => ⟨hf.1, hf.2, hPc (T.setVm vm₁) hT hW₁⟩) with ⟨v, vm₁, ⟨U', l2, c2, s2⟩, hW₁, X', ⟨g', mk, t, L, e1, e2, hq, h1, hL, h2, h3⟩, st⟩ | ⟨q, vm₁, ⟨U', l2, c2, s2⟩, hW₁, X', ⟨g', mk, t, L, E, ce, e1, e2, hq, hce, hcv, hcl, h1, hL, h2, h3⟩, st⟩
  · dsimp only [Pt.U, Pt.locs, Pt.cells, Pt.slots] at X' e1 e2 h1 h2 h3 st
    subst h1; subst h2; subst h3
    exact Or.inl ⟨v, (T.setVm vm₁).calling g' mk (Value.ref b :: As).toArray, t, U', L, hT, X', hL, e1, e2, hq, st⟩
  · dsimp only [Pt.U, Pt.locs, Pt.cells, Pt.slots] at X' e1 e2 h1 h2 h3 st hcl
    subst h1; subst h2; subst h3
    exact Or.inr ⟨q, (T.setVm vm₁).calling g' mk (Value.ref b :: As).toArray, t, U', L, E, ce, hT, X', hL, e1, e2, hq, hce, hcv, vx_cls hW₁ hcl, st⟩
theorem vx_runS (S : CallFix p m c cc nL s args Ts own) (hM : vx_Met l y ws rm Pc Qc XC mc ms free) (cw : CallB R s args own index y bytes maxL ret ws rm mc ms n ∧ (Cond.static y).before args s = true) (hp : PreS s H Pc As)
    (hg : g.method = m) (hn : As.length = n) (hsize : g.locals.size = nL) (hstack : g.stack = As.reverse ++ rest) (hW : 2 * g.monitorRoom + (rest.map fun v => v.category).sum ≤ 8) (hdg : decode cc g.pc = .ok (.invokestatic index, 3)) (hf : cells + mc ≤ R.cells ∧ slots + ms ≤ R.slots) :
    vx_Run p l e R s m args below meth c H locs cells slots mc ms g rest (Qc As.toArray) XC free := by
  have hK : vx_Back l R p e below s args y 3 8 (PreOf R mc ms Pc) (PostOf Qc mc ms free) (vx_Post XC mc ms free) := vx_callBack cw.1 hM hp.1
  obtain ⟨⟨-, -, -, -, -, -, hcode, hini, hy, hlen, hl⟩, hstt⟩ := cw
  obtain ⟨hx, hb, hml, ho, -⟩ := S
  intro T hT X
  rcases vx_callS X hx (bytes := bytes) (maxL := maxL) (ret := ret) ho hl hstt hini hcode hy hK hg (hsize.trans hml.symm) (argsL := As) (rest := rest) (fun sig h => hn.trans (hlen sig h)) hstack hW (by rw [hb]; exact hdg)
    (fun vm₁ hW₁ => ⟨hf.1, hf.2, hp.2 (T.setVm vm₁) hT hW₁⟩) with ⟨v, vm₁, ⟨U', l2, c2, s2⟩, hW₁, X', ⟨g', mk, t, L, e1, e2, hq, h1, hL, h2, h3⟩, st⟩ | ⟨q, vm₁, ⟨U', l2, c2, s2⟩, hW₁, X', ⟨g', mk, t, L, E, ce, e1, e2, hq, hce, hcv, hcl, h1, hL, h2, h3⟩, st⟩
  · dsimp only [Pt.U, Pt.locs, Pt.cells, Pt.slots] at X' e1 e2 h1 h2 h3 st
    subst h1; subst h2; subst h3
    exact Or.inl ⟨v, (T.setVm vm₁).calling g' mk As.toArray, t, U', L, hT, X', hL, e1, e2, hq, st⟩
  · dsimp only [Pt.U, Pt.locs, Pt.cells, Pt.slots] at X' e1 e2 h1 h2 h3 st hcl
    subst h1; subst h2; subst h3
    exact Or.inr ⟨q, (T.setVm vm₁).calling g' mk As.toArray, t, U', L, E, ce, hT, X', hL, e1, e2, hq, hce, hcv, vx_cls hW₁ hcl, st⟩
end Runs
section Rows
variable {p : Program} {l : Launch} {e : Env} {R : Room} {s : State} {m : MethodId} {args : Array Value} {below : List Frame} {meth : Method} {c : Code} {H : Heap} {locs : List Loc} {cells slots : Nat} {Q : State → Prop}
variable {mc ms : Nat} {free : Addr → Prop} {A0 A1 : Nat → Prop} {H0 : Heap} {a : Array Value} {pc : Nat} {ls : Array Slot} {st0 rest : List Value}
theorem vx_keep {st₀ t T' : State} {L : List Loc} (h0 : st₀.heap = H) (e1 : T'.heap = t.heap) (hS : va_S A0 H0 H locs) (hA : ∀ q, q < H.size → A1 q → A0 q) (hf : ∀ q, free q → A0 q) (hL : ∀ q ∈ L, free q.base) (hF : va_F A1 st₀ t) :
    H.size ≤ T'.heap.size ∧ (∀ q : Nat, q < H.size → ¬ A1 q → T'.heap[q]? = H[q]?) ∧ va_S A0 H0 T'.heap (locs ++ L) := by
  obtain ⟨hz, hk⟩ := hF
  rw [h0] at hz hk
  exact ⟨by rw [e1]; exact hz, fun q h1 h2 => by rw [e1]; exact hk q h1 h2,
    ⟨Nat.le_trans hS.1 (by rw [e1]; exact hz), fun q h1 h2 => by rw [e1, hk q (Nat.lt_of_lt_of_le h1 hS.1) (fun z => h2 (hA q (Nat.lt_of_lt_of_le h1 hS.1) z))]; exact hS.2.1 q h1 h2, fun q hq => by
      rcases List.mem_append.mp hq with h | h
      · exact hS.2.2 q h
      · exact hf _ (hL q h)⟩⟩
theorem vx_calli {S SX : Type} {post : Int32 → S → Prop} {px : SX → Prop} {B : S → State → Prop} {BX : String → SX → State → Prop} {AX : Nat → Prop} (hr : vx_Run p l e R s m args below meth c H locs cells slots mc ms (F0 m pc ls st0) rest (va_Qi post B A1 a) (vx_X px BX AX) free) (hS : va_S A0 H0 H locs) (hA : ∀ q, q < H.size → A1 q → A0 q) (hf : ∀ q, free q → A0 q) (hAX : ∀ q, q < H.size → AX q → A0 q)
    (kx : ∀ (E : String) (ce : Cell) (q9 : Addr) (u : SX) (t : State) (H1 : Heap) (locs1 : List Loc), t.heap = H1 → s.vm.Alike t.vm → px u → BX E u t → H.size ≤ H1.size → (∀ q : Nat, q < H.size → ¬ AX q → H1[q]? = H[q]?) → va_S A0 H0 H1 locs1 → H1[q9]? = some ce → ce.vm = .none → s.vm.findClass E = some ce.cls → vx_W p l e R s m args below meth c H1 locs1 (cells + mc) (slots + ms) Q (F0 m pc ls rest) q9)
    (kk : ∀ (r : Int32) (u : S) (t : State) (H1 : Heap) (locs1 : List Loc), t.heap = H1 → s.vm.Alike t.vm → post r u → B u t → H.size ≤ H1.size → (∀ q : Nat, q < H.size → ¬ A1 q → H1[q]? = H[q]?) → va_S A0 H0 H1 locs1 → W p l e R s m args below meth c H1 locs1 (cells + mc) (slots + ms) Q (F0 m (pc + 3) ls (.int r :: rest))) : W p l e R s m args below meth c H locs cells slots Q (F0 m pc ls st0) := by
  intro T hT X
  rcases hr T hT X with ⟨v, st₀, t, T', L, h0, X', hL, e1, e2, ⟨⟨r, u, hv, hp, hb⟩, hF⟩, st⟩ | ⟨q, st₀, t, T', L, E, ce, h0, X', hL, e1, e2, ⟨u, hp, hb, hF⟩, hce, hcv, hcl, st⟩
  · cases hv
    obtain ⟨k1, k2, k3⟩ := vx_keep h0 e1 hS hA hf hL hF
    obtain ⟨t2, a1, b1⟩ := kk r u t T'.heap (locs ++ L) e1.symm (by rw [← e2]; exact X'.warmed.alike) hp hb k1 k2 k3 T' rfl X'
    exact ⟨t2, st t2 a1, b1⟩
  · obtain ⟨k1, k2, k3⟩ := vx_keep h0 e1 hS hAX hf hL hF
    obtain ⟨t2, a1, b1⟩ := kx E ce q u t T'.heap (locs ++ L) e1.symm (by rw [← e2]; exact X'.warmed.alike) hp hb k1 k2 k3 (by rw [e1]; exact hce) hcv hcl T' rfl X'
    exact ⟨t2, st.trans a1, b1⟩
theorem vx_calll {S SX : Type} {post : Int64 → S → Prop} {px : SX → Prop} {B : S → State → Prop} {BX : String → SX → State → Prop} {AX : Nat → Prop} (hr : vx_Run p l e R s m args below meth c H locs cells slots mc ms (F0 m pc ls st0) rest (va_Ql post B A1 a) (vx_X px BX AX) free) (hS : va_S A0 H0 H locs) (hA : ∀ q, q < H.size → A1 q → A0 q) (hf : ∀ q, free q → A0 q) (hAX : ∀ q, q < H.size → AX q → A0 q)
    (kx : ∀ (E : String) (ce : Cell) (q9 : Addr) (u : SX) (t : State) (H1 : Heap) (locs1 : List Loc), t.heap = H1 → s.vm.Alike t.vm → px u → BX E u t → H.size ≤ H1.size → (∀ q : Nat, q < H.size → ¬ AX q → H1[q]? = H[q]?) → va_S A0 H0 H1 locs1 → H1[q9]? = some ce → ce.vm = .none → s.vm.findClass E = some ce.cls → vx_W p l e R s m args below meth c H1 locs1 (cells + mc) (slots + ms) Q (F0 m pc ls rest) q9)
    (kk : ∀ (r : Int64) (u : S) (t : State) (H1 : Heap) (locs1 : List Loc), t.heap = H1 → s.vm.Alike t.vm → post r u → B u t → H.size ≤ H1.size → (∀ q : Nat, q < H.size → ¬ A1 q → H1[q]? = H[q]?) → va_S A0 H0 H1 locs1 → W p l e R s m args below meth c H1 locs1 (cells + mc) (slots + ms) Q (F0 m (pc + 3) ls (.long r :: rest))) : W p l e R s m args below meth c H locs cells slots Q (F0 m pc ls st0) := by
  intro T hT X
  rcases hr T hT X with ⟨v, st₀, t, T', L, h0, X', hL, e1, e2, ⟨⟨r, u, hv, hp, hb⟩, hF⟩, st⟩ | ⟨q, st₀, t, T', L, E, ce, h0, X', hL, e1, e2, ⟨u, hp, hb, hF⟩, hce, hcv, hcl, st⟩
  · cases hv
    obtain ⟨k1, k2, k3⟩ := vx_keep h0 e1 hS hA hf hL hF
    obtain ⟨t2, a1, b1⟩ := kk r u t T'.heap (locs ++ L) e1.symm (by rw [← e2]; exact X'.warmed.alike) hp hb k1 k2 k3 T' rfl X'
    exact ⟨t2, st t2 a1, b1⟩
  · obtain ⟨k1, k2, k3⟩ := vx_keep h0 e1 hS hAX hf hL hF
    obtain ⟨t2, a1, b1⟩ := kx E ce q u t T'.heap (locs ++ L) e1.symm (by rw [← e2]; exact X'.warmed.alike) hp hb k1 k2 k3 (by rw [e1]; exact hce) hcv hcl T' rfl X'
    exact ⟨t2, st.trans a1, b1⟩
theorem vx_callf {S SX : Type} {post : UInt32 → S → Prop} {px : SX → Prop} {B : S → State → Prop} {BX : String → SX → State → Prop} {AX : Nat → Prop} (hr : vx_Run p l e R s m args below meth c H locs cells slots mc ms (F0 m pc ls st0) rest (va_Qf post B A1 a) (vx_X px BX AX) free) (hS : va_S A0 H0 H locs) (hA : ∀ q, q < H.size → A1 q → A0 q) (hf : ∀ q, free q → A0 q) (hAX : ∀ q, q < H.size → AX q → A0 q)
    (kx : ∀ (E : String) (ce : Cell) (q9 : Addr) (u : SX) (t : State) (H1 : Heap) (locs1 : List Loc), t.heap = H1 → s.vm.Alike t.vm → px u → BX E u t → H.size ≤ H1.size → (∀ q : Nat, q < H.size → ¬ AX q → H1[q]? = H[q]?) → va_S A0 H0 H1 locs1 → H1[q9]? = some ce → ce.vm = .none → s.vm.findClass E = some ce.cls → vx_W p l e R s m args below meth c H1 locs1 (cells + mc) (slots + ms) Q (F0 m pc ls rest) q9)
    (kk : ∀ (r : UInt32) (u : S) (t : State) (H1 : Heap) (locs1 : List Loc), t.heap = H1 → s.vm.Alike t.vm → post r u → B u t → H.size ≤ H1.size → (∀ q : Nat, q < H.size → ¬ A1 q → H1[q]? = H[q]?) → va_S A0 H0 H1 locs1 → W p l e R s m args below meth c H1 locs1 (cells + mc) (slots + ms) Q (F0 m (pc + 3) ls (.float r :: rest))) : W p l e R s m args below meth c H locs cells slots Q (F0 m pc ls st0) := by
  intro T hT X
  rcases hr T hT X with ⟨v, st₀, t, T', L, h0, X', hL, e1, e2, ⟨⟨r, u, hv, hp, hb⟩, hF⟩, st⟩ | ⟨q, st₀, t, T', L, E, ce, h0, X', hL, e1, e2, ⟨u, hp, hb, hF⟩, hce, hcv, hcl, st⟩
  · cases hv
    obtain ⟨k1, k2, k3⟩ := vx_keep h0 e1 hS hA hf hL hF
    obtain ⟨t2, a1, b1⟩ := kk r u t T'.heap (locs ++ L) e1.symm (by rw [← e2]; exact X'.warmed.alike) hp hb k1 k2 k3 T' rfl X'
    exact ⟨t2, st t2 a1, b1⟩
  · obtain ⟨k1, k2, k3⟩ := vx_keep h0 e1 hS hAX hf hL hF
    obtain ⟨t2, a1, b1⟩ := kx E ce q u t T'.heap (locs ++ L) e1.symm (by rw [← e2]; exact X'.warmed.alike) hp hb k1 k2 k3 (by rw [e1]; exact hce) hcv hcl T' rfl X'
    exact ⟨t2, st.trans a1, b1⟩
theorem vx_calld {S SX : Type} {post : UInt64 → S → Prop} {px : SX → Prop} {B : S → State → Prop} {BX : String → SX → State → Prop} {AX : Nat → Prop} (hr : vx_Run p l e R s m args below meth c H locs cells slots mc ms (F0 m pc ls st0) rest (va_Qd post B A1 a) (vx_X px BX AX) free) (hS : va_S A0 H0 H locs) (hA : ∀ q, q < H.size → A1 q → A0 q) (hf : ∀ q, free q → A0 q) (hAX : ∀ q, q < H.size → AX q → A0 q)
    (kx : ∀ (E : String) (ce : Cell) (q9 : Addr) (u : SX) (t : State) (H1 : Heap) (locs1 : List Loc), t.heap = H1 → s.vm.Alike t.vm → px u → BX E u t → H.size ≤ H1.size → (∀ q : Nat, q < H.size → ¬ AX q → H1[q]? = H[q]?) → va_S A0 H0 H1 locs1 → H1[q9]? = some ce → ce.vm = .none → s.vm.findClass E = some ce.cls → vx_W p l e R s m args below meth c H1 locs1 (cells + mc) (slots + ms) Q (F0 m pc ls rest) q9)
    (kk : ∀ (r : UInt64) (u : S) (t : State) (H1 : Heap) (locs1 : List Loc), t.heap = H1 → s.vm.Alike t.vm → post r u → B u t → H.size ≤ H1.size → (∀ q : Nat, q < H.size → ¬ A1 q → H1[q]? = H[q]?) → va_S A0 H0 H1 locs1 → W p l e R s m args below meth c H1 locs1 (cells + mc) (slots + ms) Q (F0 m (pc + 3) ls (.double r :: rest))) : W p l e R s m args below meth c H locs cells slots Q (F0 m pc ls st0) := by
  intro T hT X
  rcases hr T hT X with ⟨v, st₀, t, T', L, h0, X', hL, e1, e2, ⟨⟨r, u, hv, hp, hb⟩, hF⟩, st⟩ | ⟨q, st₀, t, T', L, E, ce, h0, X', hL, e1, e2, ⟨u, hp, hb, hF⟩, hce, hcv, hcl, st⟩
  · cases hv
    obtain ⟨k1, k2, k3⟩ := vx_keep h0 e1 hS hA hf hL hF
    obtain ⟨t2, a1, b1⟩ := kk r u t T'.heap (locs ++ L) e1.symm (by rw [← e2]; exact X'.warmed.alike) hp hb k1 k2 k3 T' rfl X'
    exact ⟨t2, st t2 a1, b1⟩
  · obtain ⟨k1, k2, k3⟩ := vx_keep h0 e1 hS hAX hf hL hF
    obtain ⟨t2, a1, b1⟩ := kx E ce q u t T'.heap (locs ++ L) e1.symm (by rw [← e2]; exact X'.warmed.alike) hp hb k1 k2 k3 (by rw [e1]; exact hce) hcv hcl T' rfl X'
    exact ⟨t2, st.trans a1, b1⟩
theorem vx_callv {S SX : Type} {post : S → Prop} {px : SX → Prop} {B : S → State → Prop} {BX : String → SX → State → Prop} {AX : Nat → Prop} (hr : vx_Run p l e R s m args below meth c H locs cells slots mc ms (F0 m pc ls st0) rest (va_Qv post B A1 a) (vx_X px BX AX) free) (hS : va_S A0 H0 H locs) (hA : ∀ q, q < H.size → A1 q → A0 q) (hf : ∀ q, free q → A0 q) (hAX : ∀ q, q < H.size → AX q → A0 q)
    (kx : ∀ (E : String) (ce : Cell) (q9 : Addr) (u : SX) (t : State) (H1 : Heap) (locs1 : List Loc), t.heap = H1 → s.vm.Alike t.vm → px u → BX E u t → H.size ≤ H1.size → (∀ q : Nat, q < H.size → ¬ AX q → H1[q]? = H[q]?) → va_S A0 H0 H1 locs1 → H1[q9]? = some ce → ce.vm = .none → s.vm.findClass E = some ce.cls → vx_W p l e R s m args below meth c H1 locs1 (cells + mc) (slots + ms) Q (F0 m pc ls rest) q9)
    (kk : ∀ (u : S) (t : State) (H1 : Heap) (locs1 : List Loc), t.heap = H1 → s.vm.Alike t.vm → post u → B u t → H.size ≤ H1.size → (∀ q : Nat, q < H.size → ¬ A1 q → H1[q]? = H[q]?) → va_S A0 H0 H1 locs1 → W p l e R s m args below meth c H1 locs1 (cells + mc) (slots + ms) Q (F0 m (pc + 3) ls (rest))) : W p l e R s m args below meth c H locs cells slots Q (F0 m pc ls st0) := by
  intro T hT X
  rcases hr T hT X with ⟨v, st₀, t, T', L, h0, X', hL, e1, e2, ⟨⟨u, hv, hp, hb⟩, hF⟩, st⟩ | ⟨q, st₀, t, T', L, E, ce, h0, X', hL, e1, e2, ⟨u, hp, hb, hF⟩, hce, hcv, hcl, st⟩
  · cases hv
    obtain ⟨k1, k2, k3⟩ := vx_keep h0 e1 hS hA hf hL hF
    obtain ⟨t2, a1, b1⟩ := kk u t T'.heap (locs ++ L) e1.symm (by rw [← e2]; exact X'.warmed.alike) hp hb k1 k2 k3 T' rfl X'
    exact ⟨t2, st t2 a1, b1⟩
  · obtain ⟨k1, k2, k3⟩ := vx_keep h0 e1 hS hAX hf hL hF
    obtain ⟨t2, a1, b1⟩ := kx E ce q u t T'.heap (locs ++ L) e1.symm (by rw [← e2]; exact X'.warmed.alike) hp hb k1 k2 k3 (by rw [e1]; exact hce) hcv hcl T' rfl X'
    exact ⟨t2, st.trans a1, b1⟩
/-- caught by the row x of this method's table; the rows ahead don't take it -/
theorem vx_catch {own name : String} {E : String} {ce : Cell} {q : Addr} (hown : s.vm.findClass own = some m.cls) (pre : List ExceptionTableEntry) (x : ExceptionTableEntry) (suf : List ExceptionTableEntry) (hsplit : c.exceptionTable.toList = pre ++ x :: suf)
    (hpass : ∀ z ∈ pre, covers z pc = false ∨ (z.catchType ≠ 0 ∧ ∃ nm : String, (Cond.classLink own z.catchType nm).before args s = true ∧ va_Nc E nm s)) (hx : covers x pc = true) (h0 : x.catchType ≠ 0)
    (hlink : (Cond.classLink own x.catchType name).before args s = true) (hcast : (Cond.castable E name).before args s = true) (hcell : H[q]? = some ce) (hv : ce.vm = .none) (hcl : s.vm.findClass E = some ce.cls)
    (kk : W p l e R s m args below meth c H locs cells slots Q (F0 m x.handlerPc ls [.ref q])) : vx_W p l e R s m args below meth c H locs cells slots Q (F0 m pc ls rest) q := by
  intro T hT X
  have hpl : e.platform.magicAccessors = ({} : Platform).magicAccessors := by rw [X.admits.platform]
  obtain ⟨c3, c4, hc3, hc4, hasg⟩ := Cond.castable_spec hcast
  cases Option.some.inj (hc3.symm.trans hcl)
  obtain ⟨c5, hc5, hcl5⟩ := Cond.classLink_spec hown hlink e.platform hpl
  cases Option.some.inj (hc4.symm.trans hc5)
  obtain ⟨vm', X', st⟩ := X.thenCaughtThrough q (g := F0 m pc ls rest) rfl (Steps.refl _) (by rw [hT]; exact hcell) (by rw [hv]; rfl) (by obtain ⟨k9, h9, -⟩ := Vm.findClass_spec hcl; exact ⟨k9, h9⟩) pre x suf hsplit
    (fun z hz => by
      rcases hpass z hz with h | ⟨hz0, nm, hl1, hn1⟩
      · exact Or.inl h
      · obtain ⟨c6, hc6, hcl6⟩ := Cond.classLink_spec hown hl1 e.platform hpl
        obtain ⟨a8, b8, h1, h2, h3⟩ := hn1
        cases Option.some.inj (h1.symm.trans hcl)
        cases Option.some.inj (h2.symm.trans hc6)
        exact Or.inr ⟨hz0, _, hcl6, h3⟩) hx (Or.inr ⟨h0, c4, hcl5, hasg⟩)
  obtain ⟨t, a1, b1⟩ := kk (T.setVm vm') hT X'
  exact ⟨t, st.trans a1, b1⟩
end Rows
section Ends
variable {p : Program} {l : Launch} {e : Env} {R : Room} {s : State} {m : MethodId} {args : Array Value} {below : List Frame} {meth : Method} {c : Code} {H : Heap} {locs : List Loc} {cells slots : Nat} {Q : State → Prop}
variable {mc ms : Nat} {free : Addr → Prop} {A0 A1 : Nat → Prop} {H0 : Heap} {a : Array Value} {ls : Array Slot} {st0 rest : List Value}
variable {Qc : Array Value → State → Outcome → State → Prop} {XC : String → State → State → Prop}
/-- what a body that may throw owes at its end -/
def vx_MQ (below : List Frame) (Qc : Array Value → State → Outcome → State → Prop) (XC : String → State → State → Prop) (a : Array Value) (s : State) (mc ms : Nat) (free : Addr → Prop) : State → Prop := fun t =>
  ∃ o, t.status = .running ∧ Ended t below o ∧ vx_Q Qc XC mc ms free a s o t
theorem vx_ret {g : JFrame} {mc ms : Nat} (k : W p l e R s m args below meth c H locs cells slots (MQ below Qc args s mc ms free) g) : W p l e R s m args below meth c H locs cells slots (vx_MQ below Qc XC args s mc ms free) g := by
  intro T hT X
  obtain ⟨t, a1, o, b1, b2, b3, b4⟩ := k T hT X
  exact ⟨t, a1, o, b1, b2, Or.inl ⟨b3, b4⟩⟩
/-- not caught here: it goes on to the caller -/
theorem vx_widen {g : JFrame} {q : Addr} {k n : Nat} (h1 : cells ≤ k) (h2 : slots ≤ n) (kk : vx_W p l e R s m args below meth c H locs k n Q g q) : vx_W p l e R s m args below meth c H locs cells slots Q g q := fun T hT X => kk T hT (stand_widen X h1 h2)
theorem vx_out {pc : Nat} {E : String} {ce : Cell} {q : Addr} {mc ms : Nat} (hout : ∀ x ∈ c.exceptionTable.toList, covers x pc = false) (hlocks : meth.locks = false) (hcell : H[q]? = some ce) (hv : ce.vm = .none) (hcl : s.vm.findClass E = some ce.cls)
    (hx : ∀ t : State, t.heap = H → s.vm.Alike t.vm → XC E s t) (hf : ∀ z ∈ locs, free z.base) (hc : cells ≤ mc) (hs : slots ≤ ms) :
    vx_W p l e R s m args below meth c H locs cells slots (vx_MQ below Qc XC args s mc ms free) (F0 m pc ls rest) q := by
  intro T hT X
  obtain ⟨st1, hrun, hend, hW, hsm⟩ := X.leaveThrown q (g := F0 m pc ls rest) rfl rfl rfl hout hlocks
  have hcell9 : (T.setFrames (.throwing q :: below)).heap[q]? = some ce := by
    show T.heap[q]? = some ce
    rw [hT]; exact hcell
  exact ⟨_, st1, .threw q, hrun, hend, Or.inr ⟨q, rfl, E, ce, locs, hx _ hT hW.alike, hcell9, hv, hcl, hW, hsm.mono hc hs, hf⟩⟩
theorem vx_frame {U : State} {k n : Nat} (h : s.sameButNew ({ U with vm := s.vm } : State) locs k n) : s.heap.size ≤ U.heap.size ∧ ∀ q : Nat, q < s.heap.size → (∀ z ∈ locs, z.base ≠ q) → U.heap[q]? = s.heap[q]? := by
  obtain ⟨-, h2, -, -, -, h6⟩ := h
  refine ⟨h2, fun q hq hz => ?_⟩
  obtain ⟨c9, e1, e2, e3, e4⟩ := h6 q _ (Array.getElem?_eq_getElem hq)
  have hs : c9.slots = (s.heap[q]).slots := Array.ext_getElem? fun i => e4 i fun hm => hz _ hm rfl
  have h9 : c9 = s.heap[q] := by
    rw [hs] at e2
    exact e2
  have e5 : U.heap[q]? = some c9 := e1
  rw [e5, h9, Array.getElem?_eq_getElem hq]
/-- the words of a throw but the four that speak of the heap -/
def vx_no (w : Cond) : Bool := decide (w ≠ .isRef (.static Bundle.tN "UNASSIGNED_STACK" Bundle.steD)) && decide (w ≠ .isRef (.static Bundle.tN "SUPPRESSED_SENTINEL" Bundle.listD)) && decide (w ≠ .laysStatic Bundle.tN "UNASSIGNED_STACK" Bundle.steD) && decide (w ≠ .laysStatic Bundle.tN "SUPPRESSED_SENTINEL" Bundle.listD)
def vx_at0 (own : String) (ic : Nat) (X : String) (names : List String) : List Cond := (Bundle.ownAtoms0 own ic X names).filter vx_no
def vx_atS (own : String) (ic : Nat) (X : String) (names : List String) : List Cond := (Bundle.ownAtoms own ic X names).filter vx_no
/-- a word that the tables alone decide, or a good one -/
def vx_ot (w : Cond) : Bool := w.onTables || goodWord w
theorem vx_ot_at {args a' : Array Value} {s U : State} {w : Cond} (hW : s.WarmedH U.vm) (hvm : s.vm = U.vm) (hg : vx_ot w = true) (h : w.before args s = true) : w.before a' U = true := by
  simp only [vx_ot, Bool.or_eq_true] at hg
  rcases hg with hg | hg
  · exact va_tabs hg hvm h
  · exact word_at hW (good_of_word hg) h
/-- a list's words: the good ones out of the method's own list, the others by premises of their own -/
theorem vx_hat {args : Array Value} {s : State} {L B : List Cond} (h1 : ∀ w ∈ L.filter goodWord, w.before args s = true) (h2 : ∀ w ∈ L.filter (fun w => !goodWord w), w ∈ B) (h3 : ∀ w ∈ B, w.before args s = true) : ∀ w ∈ L, w.before args s = true := by
  intro w hw
  by_cases g : goodWord w = true
  · exact h1 w (List.mem_filter.mpr ⟨hw, g⟩)
  · refine h3 w (h2 w (List.mem_filter.mpr ⟨hw, ?_⟩))
    show (!goodWord w) = true
    cases hgw : goodWord w
    · rfl
    · exact absurd hgw g
theorem vx_c {args : Array Value} {s : State} {w : Cond} {B : List Cond} (h : w.before args s = true) (t : ∀ w ∈ B, w.before args s = true) : ∀ w' ∈ w :: B, w'.before args s = true := fun w' h' => (List.mem_cons.mp h').elim (fun e => by rw [e]; exact h) (t w')
theorem vx_n {args : Array Value} {s : State} : ∀ w ∈ ([] : List Cond), w.before args s = true := fun _ h => nomatch h
theorem vx_own {args : Array Value} {s : State} {L : List Cond} (h1 : ∀ w ∈ L.filter vx_no, w.before args s = true)
    (hU : (Cond.isRef (.static Bundle.tN "UNASSIGNED_STACK" Bundle.steD)).before args s = true) (hN : (Cond.isRef (.static Bundle.tN "SUPPRESSED_SENTINEL" Bundle.listD)).before args s = true)
    (lU : (Cond.laysStatic Bundle.tN "UNASSIGNED_STACK" Bundle.steD).before args s = true) (lN : (Cond.laysStatic Bundle.tN "SUPPRESSED_SENTINEL" Bundle.listD).before args s = true) : ∀ w ∈ L, w.before args s = true := by
  intro w hw
  by_cases e1 : w = .isRef (.static Bundle.tN "UNASSIGNED_STACK" Bundle.steD)
  · rw [e1]; exact hU
  · by_cases e2 : w = .isRef (.static Bundle.tN "SUPPRESSED_SENTINEL" Bundle.listD)
    · rw [e2]; exact hN
    · by_cases e3 : w = .laysStatic Bundle.tN "UNASSIGNED_STACK" Bundle.steD
      · rw [e3]; exact lU
      · by_cases e4 : w = .laysStatic Bundle.tN "SUPPRESSED_SENTINEL" Bundle.listD
        · rw [e4]; exact lN
        · exact h1 w (List.mem_filter.mpr ⟨hw, by unfold vx_no; rw [decide_eq_true e1, decide_eq_true e2, decide_eq_true e3, decide_eq_true e4]; rfl⟩)
/-- where a static field lies, its class's statics cell in H -/
def vx_L (C n d : String) (A : Nat → Prop) (U : State) (H : Heap) : Prop := ∃ (c : ClassId) (k : Class) (i : Nat) (f : Field) (a : Nat) (cell : Cell), U.vm.findClass C = some c ∧ U.fieldFound? C n d = some (c, k, i, f) ∧ f.isStatic = true ∧ k.statics = some a ∧ H[a]? = some cell ∧ cell.vm.isStatics = true ∧ cell.cls = c ∧ f.slot < cell.slots.size ∧ k.staticTypes[f.slot]? = some f.type ∧ ¬ A a
theorem vx_L.moved {C n d : String} {A : Nat → Prop} {u U : State} {H : Heap} (hvm : u.vm.Alike U.vm) (h : vx_L C n d A u H) : vx_L C n d A U H := by
  obtain ⟨c, k, i, f, a, cell, h1, h2, h3, h4, h5, h6, h7, h8, h9, h10⟩ := h
  obtain ⟨k', hi', he⟩ := State.fieldFound?_setVm hvm h2
  exact ⟨c, k', i, f, a, cell, by rw [hvm.findClass]; exact h1, hi', h3, by rw [he]; exact h4, h5, h6, h7, h8, by rw [he]; exact h9, h10⟩
theorem vx_L.kept {C n d : String} {A : Nat → Prop} {U : State} {H H1 : Heap} (h : vx_L C n d A U H) (hq : ∀ a : Nat, a < H.size → ¬ A a → H1[a]? = H[a]?) : vx_L C n d A U H1 := by
  obtain ⟨c, k, i, f, a, cell, h1, h2, h3, h4, h5, h6, h7, h8, h9, h10⟩ := h
  exact ⟨c, k, i, f, a, cell, h1, h2, h3, h4, by rw [hq a (Array.getElem?_eq_some_iff.mp h5).1 h10]; exact h5, h6, h7, h8, h9, h10⟩
theorem vx_L.narrow {C n d : String} {A B : Nat → Prop} {U : State} {H : Heap} (h : vx_L C n d A U H) (hAB : ∀ q, B q → A q) : vx_L C n d B U H := by
  obtain ⟨c, k, i, f, a, cell, h1, h2, h3, h4, h5, h6, h7, h8, h9, h10⟩ := h
  exact ⟨c, k, i, f, a, cell, h1, h2, h3, h4, h5, h6, h7, h8, h9, fun z => h10 (hAB _ z)⟩
theorem vx_L.word {C n d : String} {A : Nat → Prop} {s : State} {args : Array Value} (h : vx_L C n d A s s.heap) : (Cond.laysStatic C n d).before args s = true := by
  obtain ⟨c, k, i, f, a, cell, h1, h2, h3, h4, h5, h6, h7, h8, h9, -⟩ := h
  show (Cond.laysStatic C n d).holds args s none s [] = true
  exact Cond.laysStatic_of h1 h2 h3 h4 h5 h6 h7 h8 h9
/-- .. and what it holds: null or some reference -/
def vx_Zq (C n d : String) (A : Nat → Prop) (U : State) (H : Heap) : Prop := va_Zq C n d A U H ∧ vx_L C n d A U H
theorem vx_Zq.moved {C n d : String} {A : Nat → Prop} {u U : State} {H : Heap} (hvm : u.vm.Alike U.vm) (h : vx_Zq C n d A u H) : vx_Zq C n d A U H := ⟨va_Zq.moved hvm h.1, vx_L.moved hvm h.2⟩
theorem vx_Zq.kept {C n d : String} {A : Nat → Prop} {U : State} {H H1 : Heap} (h : vx_Zq C n d A U H) (hq : ∀ a : Nat, a < H.size → ¬ A a → H1[a]? = H[a]?) : vx_Zq C n d A U H1 := ⟨va_Zq.kept h.1 hq, vx_L.kept h.2 hq⟩
theorem vx_Zq.narrow {C n d : String} {A B : Nat → Prop} {U : State} {H : Heap} (h : vx_Zq C n d A U H) (hAB : ∀ q, B q → A q) : vx_Zq C n d B U H := ⟨va_Zq.narrow h.1 hAB, vx_L.narrow h.2 hAB⟩
theorem vx_Zqof {args : Array Value} {s : State} {C n d : String} {A : Nat → Prop} (hl : (Cond.laysStatic C n d).before args s = true) (hini : (Cond.initialized C).before args s = true) (h : (Cond.isRef (.static C n d)).before args s = true) (hA : ∀ a : Nat, a < s.heap.size → ¬ A a) : vx_Zq C n d A s s.heap := by
  refine ⟨va_Zqof hl hini h hA, ?_⟩
  obtain ⟨c, k, i, f, a, cell, h1, h2, h3, h4, h5, h6, h7, h8, h9⟩ := Cond.laysStatic_spec hl
  exact ⟨c, k, i, f, a, cell, h1, h2, h3, h4, h5, h6, h7, h8, h9, hA a (Array.getElem?_eq_some_iff.mp h5).1⟩
theorem vx_isRef {C n d : String} {v : Value} {A : Nat → Prop} {s : State} {args : Array Value} (h : va_Z C n d v A s s.heap) (hv : v.isRef = true) : (Cond.isRef (.static C n d)).before args s = true := by
  obtain ⟨cf, kf, fi, f, a, cell, h1, h2, h3, h4, h5, h6, h7, -⟩ := h
  have he : (Term.static C n d).eval args s none [] s = some v := by
    simp [Term.eval, State.fieldNamed?, h1, h2, h4, h5, h6, h7]
  simp only [Cond.before, Cond.holds, Cond.value, he]
  cases v <;> simp_all [Value.isRef]
theorem vx_isRefq {C n d : String} {A : Nat → Prop} {s : State} {args : Array Value} (h : va_Zq C n d A s s.heap) : (Cond.isRef (.static C n d)).before args s = true := by
  rcases h with h | ⟨t, h⟩
  · exact vx_isRef h rfl
  · exact vx_isRef h rfl
/-- the same frame, seen from here: as if the method were called anew in this heap -/
theorem vx_rebase {T : State} (X : Stand p l e R s m args below meth c T locs cells slots) {R' : Room} (hf : R'.frames ≤ R.frames) (hl : R'.locals ≤ R.locals) (hc : cells + R'.cells ≤ R.cells) (hs : slots + R'.slots ≤ R.slots) :
    Stand p l e R' ((T.setVm s.vm).setFrames (.invoking m args :: below)) m args below meth c T [] 0 0 := by
  have htop : (T.setVm s.vm).topJava?.isSome := X.here.top
  have hF : ((T.setVm s.vm).setFrames (.invoking m args :: below)).frames = .invoking m args :: below := State.frames_setFrames _ (State.cur_lt_of_top htop)
  obtain ⟨g₀, hg0⟩ := Option.isSome_iff_exists.mp htop
  obtain ⟨r, hr⟩ := State.topJava?_eq_some.mp hg0
  have hl9 : e.platform.stackLimits (T.setVm s.vm).me = e.platform.stackLimits s.me := X.limits
  have hb9 : (T.setVm s.vm).me.stackBytes = s.me.stackBytes := X.bytes
  refine ⟨X.admits, X.cas, X.clock, hF, ?_, X.hears, X.method, X.code, X.here, X.tail, X.warmed, ?_, ?_, ?_⟩
  · have h := X.room
    have hU : ((T.setVm s.vm).setFrames (.invoking m args :: below)).localsInUse = s.localsInUse := by
      rw [State.localsInUse_invoking hF (meth := meth) (c := c) X.method X.code, State.localsInUse_invoking X.frames X.method X.code]
    simp only [State.hasRoom, Bool.and_eq_true, decide_eq_true_eq] at h ⊢
    obtain ⟨⟨⟨⟨h1, h2, h3, h4, h5, h6⟩, h7⟩, h8⟩, h9⟩ := h
    rw [X.frames, List.length_cons] at h2 h3
    have q1 := X.heapSize
    have q2 := X.used
    simp only [hF, hU, List.length_cons, State.stackLimits_setFrames, State.stackBytes_setFrames, hl9, hb9]
    refine ⟨⟨⟨⟨by omega, by omega, by omega, by omega, by omega, h6⟩, ?_⟩, ?_⟩, X.book⟩
    · show T.heap.size + R'.cells ≤ e.platform.maxCells
      omega
    · show T.slotsUsed + R'.slots ≤ e.platform.maxSlots
      omega
  · rw [State.stackLimits_setFrames]; rfl
  · rw [State.stackBytes_setFrames]; rfl
  · refine ⟨?_, Nat.le_refl _, Nat.le_refl _, ?_, ?_, fun a c9 h9 => ⟨c9, h9, rfl, rfl, fun _ _ => rfl⟩⟩
    · obtain ⟨t, ht, -⟩ := State.frames_cons hr
      show T.setVm s.vm = { ((T.setVm s.vm).setFrames (.invoking m args :: below)).setFrames (T.setVm s.vm).frames with heap := T.heap, slotsUsed := T.slotsUsed }
      rw [State.setFrames_setFrames, State.setFrames_self ht]
      rfl
    · show T.slotsUsed = T.slotsUsed + ((T.heap.toList.drop T.heap.size).map (·.slots.size)).sum
      rw [List.drop_eq_nil_of_le (Nat.le_of_eq Array.length_toList)]
      rfl
    · show ((T.heap.toList.drop T.heap.size).map (·.slots.size)).sum ≤ 0
      rw [List.drop_eq_nil_of_le (Nat.le_of_eq Array.length_toList)]
      exact Nat.le_refl _
/-- 'throw new E()': new; dup; invokespecial; athrow -/
theorem vx_throw0 {cc : ByteArray} {pc : Nat} (hexec : p.tables.exec = Jvm.exec) (hb : c.code = cc) (hl : l.stackTraces = false) {own cls : String} {names : List String} {ik ic mc ms : Nat} {A : Nat → Prop}
    (hown : s.vm.findClass own = some m.cls) (hcls : Bundle.fit cls = true) (hnames : ∀ n ∈ names, Bundle.fit n = true)
    (hk : (Cond.classLink own ik cls).before args s = true) (hini : (Cond.initialized cls).before args s = true) (hat : ∀ w ∈ vx_at0 own ic cls names, w.before args s = true)
    (hgood : ∀ w ∈ Cond.classLink own ik cls :: Cond.initialized cls :: vx_at0 own ic cls names, vx_ot w = true)
    (hU : vx_Zq Bundle.tN "UNASSIGNED_STACK" Bundle.steD A s s.heap) (hN : vx_Zq Bundle.tN "SUPPRESSED_SENTINEL" Bundle.listD A s s.heap) (hS : va_S A s.heap H locs) (hsize : ls.size = c.maxLocals)
    (d0 : decode cc pc = .ok (.new ik, 3)) (d3 : decode cc (pc + 3) = .ok (.dup, 1)) (d4 : decode cc (pc + 4) = .ok (.invokespecial ic, 3)) (d7 : decode cc (pc + 7) = .ok (.athrow, 1))
    (hout : ∀ x ∈ c.exceptionTable.toList, covers x (pc + 7) = false)
    (hRframes : names.length + 3 < R.frames) (hRlocals : (rest.map fun v => v.category).sum + (13 * (names.length + 1) + 42) ≤ R.locals) (hRcells : cells + 1 ≤ R.cells) (hRslots : slots + 6 ≤ R.slots) (hlocks : meth.locks = false)
    (hx : ∀ t : State, s.vm.Alike t.vm → H.size ≤ t.heap.size → (∀ q : Nat, q < H.size → t.heap[q]? = H[q]?) → XC cls s t)
    (hf : ∀ z ∈ locs, free z.base) (hc : cells + 1 ≤ mc) (hs : slots + 6 ≤ ms) :
    W p l e R s m args below meth c H locs cells slots (vx_MQ below Qc XC args s mc ms free) (F0 m pc ls rest) := by
  intro T hT X
  have htr : e.platform.stackTraces = false := (show e.platform.stackTraces = l.stackTraces by rw [X.admits.platform]).trans hl
  have Y := vx_rebase X (R' := { frames := R.frames, locals := R.locals, cells := 1, slots := 6 }) (Nat.le_refl _) (Nat.le_refl _) hRcells hRslots
  obtain ⟨s', hA⟩ : ∃ z, z = (T.setVm s.vm).setFrames (.invoking m args :: below) := ⟨_, rfl⟩
  rw [← hA] at Y
  have hvm : s'.vm = s.vm := by rw [hA]; rfl
  have hhp : s'.heap = H := by rw [hA]; exact hT
  have hW0 : s.WarmedH s'.vm := by rw [hvm]; exact State.WarmedH.refl s
  have hat' : ∀ w ∈ vx_at0 own ic cls names, w.before args s' = true := fun w hw => vx_ot_at hW0 hvm.symm (hgood w (List.mem_cons_of_mem _ (List.mem_cons_of_mem _ hw))) (hat w hw)
  have hk' : (Cond.classLink own ik cls).before args s' = true := vx_ot_at hW0 hvm.symm (hgood _ List.mem_cons_self) hk
  have hini' : (Cond.initialized cls).before args s' = true := vx_ot_at hW0 hvm.symm (hgood _ (List.mem_cons_of_mem _ List.mem_cons_self)) hini
  have hU' : vx_Zq Bundle.tN "UNASSIGNED_STACK" Bundle.steD A s' s'.heap := by rw [hhp]; exact vx_Zq.moved hW0.alike (hU.kept hS.2.1)
  have hN' : vx_Zq Bundle.tN "SUPPRESSED_SENTINEL" Bundle.listD A s' s'.heap := by rw [hhp]; exact vx_Zq.moved hW0.alike (hN.kept hS.2.1)
  have h : ∀ w ∈ Bundle.ownAtoms0 own ic cls names, w.before args s' = true := vx_own hat' (vx_isRefq hU'.1) (vx_isRefq hN'.1) hU'.2.word hN'.2.word
  have hown' : s'.vm.findClass own = some m.cls := by rw [hvm]; exact hown
  have hins : (Cond.instantiable cls 6).before args s' = true := h _ (by simp [Bundle.ownAtoms0])
  obtain ⟨vm₁, cX, kX, hfX, hkX, -, -, X₁, st1⟩ := Y.newCold hexec (own := own) (C := cls) (index := ik) (n := 6) hown' hk' hins hini'
    (g := F0 m pc ls rest) rfl (by rw [hb]; exact d0) (Nat.le_refl _) (Nat.le_refl _)
  generalize hT1 : (T.setVm vm₁).pushCell { cls := cX, slots := kX.instanceTypes.map defaultValue, vm := .none } = T1 at X₁ st1
  have hcat : (Value.ref T.heap.size).category = 1 := rfl
  have hcellA : T1.heap[T.heap.size]? = some (freshCell cX kX) := by rw [← hT1]; exact State.heap_pushCell_size _ _
  have d3' : decode c.code (pc + 3) = .ok (.dup, 1) := by rw [hb]; exact d3
  obtain ⟨U, hsteps, hrun, hend, hW, hsame, ce, hce, hO⟩ := X₁.ctorThrow0 hexec htr (own := own) (cls := cls) (names := names) (ic := ic) hown' hcls hnames h (fun x hx => nomatch hx) hfX hkX hcellA (by rw [hhp, hT]; exact Nat.le_refl _)
    (g := { method := m, pc := pc + 4, locals := ls, stack := .ref T.heap.size :: .ref T.heap.size :: rest, locked := none }) rfl hsize rfl rfl (rest := rest) rfl
    (by rw [hb]; exact d4) (by rw [hb]; exact d7) hout hRframes (by simp only [List.map_cons, List.sum_cons, hcat]; omega) hlocks
  obtain ⟨f1, f2⟩ := vx_frame hsame
  rw [hhp] at f1 f2
  have hWs : s.WarmedH U.vm := State.WarmedH.trans hW0 hW
  have hcl : s.vm.findClass cls = some ce.cls := by
    have h9 := hO.cls
    rw [hvm] at h9
    exact h9
  have hall : s.sameButNew ({ U with vm := s.vm } : State) locs mc ms := by
    subst hA
    obtain ⟨e1, e2⟩ := hsame
    rw [State.setFrames_setFrames] at e1
    have h2 : (T.setVm s.vm).sameButNew ({ U with vm := s.vm } : State) [] (0 + 1) (0 + 6) := ⟨e1, e2⟩
    have h3 := X.same.trans h2
    rw [List.append_nil] at h3
    exact h3.mono hc hs
  refine ⟨U, ?_, .threw T.heap.size, hrun, hend, Or.inr ⟨T.heap.size, rfl, cls, ce, locs, hx U hWs.alike f1 (fun q hq => f2 q hq (fun z hz => nomatch hz)), hce, hO.vm, hcl, hWs, hall, hf⟩⟩
  refine st1 _ ?_
  show Steps p.tables e below (T1.setTop { method := m, pc := pc + 3, locals := ls, stack := .ref T.heap.size :: rest, locked := none }) _
  jvm_step X₁.here [X₁.here.top, hexec, d3', Value.category]
  exact hsteps
/-- 'throw new E("text")': new; dup; ldc; invokespecial; athrow -/
theorem vx_throwS {cc : ByteArray} {pc : Nat} (hexec : p.tables.exec = Jvm.exec) (hb : c.code = cc) (hl : l.stackTraces = false) {own cls text : String} {names : List String} {ik is ic mc ms sa : Nat} {A : Nat → Prop}
    (hown : s.vm.findClass own = some m.cls) (hcls : Bundle.fit cls = true) (hnames : ∀ n ∈ names, Bundle.fit n = true)
    (hk : (Cond.classLink own ik cls).before args s = true) (hini : (Cond.initialized cls).before args s = true) (hstr : vk_R own is text sa s) (hat : ∀ w ∈ vx_atS own ic cls names, w.before args s = true)
    (hgood : ∀ w ∈ Cond.classLink own ik cls :: Cond.initialized cls :: vx_atS own ic cls names, vx_ot w = true)
    (hU : vx_Zq Bundle.tN "UNASSIGNED_STACK" Bundle.steD A s s.heap) (hN : vx_Zq Bundle.tN "SUPPRESSED_SENTINEL" Bundle.listD A s s.heap) (hS : va_S A s.heap H locs) (hsize : ls.size = c.maxLocals)
    (d0 : decode cc pc = .ok (.new ik, 3)) (d3 : decode cc (pc + 3) = .ok (.dup, 1)) (d4 : decode cc (pc + 4) = .ok (.ldc is, 2)) (d6 : decode cc (pc + 6) = .ok (.invokespecial ic, 3)) (d9 : decode cc (pc + 9) = .ok (.athrow, 1))
    (hout : ∀ x ∈ c.exceptionTable.toList, covers x (pc + 9) = false)
    (hRframes : names.length + 3 < R.frames) (hRlocals : (rest.map fun v => v.category).sum + (13 * (names.length + 1) + 43) ≤ R.locals) (hRcells : cells + 1 ≤ R.cells) (hRslots : slots + 6 ≤ R.slots) (hlocks : meth.locks = false)
    (hx : ∀ t : State, s.vm.Alike t.vm → H.size ≤ t.heap.size → (∀ q : Nat, q < H.size → t.heap[q]? = H[q]?) → XC cls s t)
    (hf : ∀ z ∈ locs, free z.base) (hc : cells + 1 ≤ mc) (hs : slots + 6 ≤ ms) :
    W p l e R s m args below meth c H locs cells slots (vx_MQ below Qc XC args s mc ms free) (F0 m pc ls rest) := by
  intro T hT X
  have htr : e.platform.stackTraces = false := (show e.platform.stackTraces = l.stackTraces by rw [X.admits.platform]).trans hl
  have Y := vx_rebase X (R' := { frames := R.frames, locals := R.locals, cells := 1, slots := 6 }) (Nat.le_refl _) (Nat.le_refl _) hRcells hRslots
  obtain ⟨s', hA⟩ : ∃ z, z = (T.setVm s.vm).setFrames (.invoking m args :: below) := ⟨_, rfl⟩
  rw [← hA] at Y
  have hvm : s'.vm = s.vm := by rw [hA]; rfl
  have hhp : s'.heap = H := by rw [hA]; exact hT
  have hW0 : s.WarmedH s'.vm := by rw [hvm]; exact State.WarmedH.refl s
  have hat' : ∀ w ∈ vx_atS own ic cls names, w.before args s' = true := fun w hw => vx_ot_at hW0 hvm.symm (hgood w (List.mem_cons_of_mem _ (List.mem_cons_of_mem _ hw))) (hat w hw)
  have hk' : (Cond.classLink own ik cls).before args s' = true := vx_ot_at hW0 hvm.symm (hgood _ List.mem_cons_self) hk
  have hini' : (Cond.initialized cls).before args s' = true := vx_ot_at hW0 hvm.symm (hgood _ (List.mem_cons_of_mem _ List.mem_cons_self)) hini
  have hU' : vx_Zq Bundle.tN "UNASSIGNED_STACK" Bundle.steD A s' s'.heap := by rw [hhp]; exact vx_Zq.moved hW0.alike (hU.kept hS.2.1)
  have hN' : vx_Zq Bundle.tN "SUPPRESSED_SENTINEL" Bundle.listD A s' s'.heap := by rw [hhp]; exact vx_Zq.moved hW0.alike (hN.kept hS.2.1)
  have h : ∀ w ∈ Bundle.ownAtoms own ic cls names, w.before args s' = true := vx_own hat' (vx_isRefq hU'.1) (vx_isRefq hN'.1) hU'.2.word hN'.2.word
  have hown' : s'.vm.findClass own = some m.cls := by rw [hvm]; exact hown
  have hins : (Cond.instantiable cls 6).before args s' = true := h _ (by simp [Bundle.ownAtoms])
  obtain ⟨vm₁, cX, kX, hfX, hkX, -, -, X₁, st1⟩ := Y.newCold hexec (own := own) (C := cls) (index := ik) (n := 6) hown' hk' hins hini'
    (g := F0 m pc ls rest) rfl (by rw [hb]; exact d0) (Nat.le_refl _) (Nat.le_refl _)
  generalize hT1 : (T.setVm vm₁).pushCell { cls := cX, slots := kX.instanceTypes.map defaultValue, vm := .none } = T1 at X₁ st1
  have hcat : (Value.ref T.heap.size).category = 1 := rfl
  have hcellA : T1.heap[T.heap.size]? = some (freshCell cX kX) := by rw [← hT1]; exact State.heap_pushCell_size _ _
  have d3' : decode c.code (pc + 3) = .ok (.dup, 1) := by rw [hb]; exact d3
  have d4' : decode c.code (pc + 4) = .ok (.ldc is, 2) := by rw [hb]; exact d4
  have hstr' : vk_R own is text sa s' := vk_R.warm hW0 hstr
  obtain ⟨U, hsteps, hrun, hend, hW, hsame, ce, hce, hO⟩ := X₁.ctorThrowS hexec htr (own := own) (cls := cls) (names := names) (ic := ic) hown' hcls hnames h (fun x hx => nomatch hx) hfX hkX hcellA (by rw [hhp, hT]; exact Nat.le_refl _) (msg := .ref sa) rfl
    (g := { method := m, pc := pc + 6, locals := ls, stack := .ref sa :: .ref T.heap.size :: .ref T.heap.size :: rest, locked := none }) rfl hsize rfl rfl (rest := rest) rfl
    (by rw [hb]; exact d6) (by rw [hb]; exact d9) hout hRframes (by simp only [List.map_cons, List.sum_cons, hcat]; omega) hlocks
  obtain ⟨f1, f2⟩ := vx_frame hsame
  rw [hhp] at f1 f2
  have hWs : s.WarmedH U.vm := State.WarmedH.trans hW0 hW
  have hcl : s.vm.findClass cls = some ce.cls := by
    have h9 := hO.cls
    rw [hvm] at h9
    exact h9
  have hall : s.sameButNew ({ U with vm := s.vm } : State) locs mc ms := by
    subst hA
    obtain ⟨e1, e2⟩ := hsame
    rw [State.setFrames_setFrames] at e1
    have h2 : (T.setVm s.vm).sameButNew ({ U with vm := s.vm } : State) [] (0 + 1) (0 + 6) := ⟨e1, e2⟩
    have h3 := X.same.trans h2
    rw [List.append_nil] at h3
    exact h3.mono hc hs
  refine ⟨U, ?_, .threw T.heap.size, hrun, hend, Or.inr ⟨T.heap.size, rfl, cls, ce, locs, hx U hWs.alike f1 (fun q hq => f2 q hq (fun z hz => nomatch hz)), hce, hO.vm, hcl, hWs, hall, hf⟩⟩
  refine st1 _ ?_
  show Steps p.tables e below (T1.setTop { method := m, pc := pc + 3, locals := ls, stack := .ref T.heap.size :: rest, locked := none }) _
  jvm_step X₁.here [X₁.here.top, hexec, d3', Value.category]
  exact X₁.ldcString hexec (own := own) (text := text) (index := is) (a := sa) hown' hstr'.1 hstr'.2
    (g := { method := m, pc := pc + 4, locals := ls, stack := .ref T.heap.size :: .ref T.heap.size :: rest, locked := none }) rfl d4' _ hsteps
/-- 'throw new E("text")', the text by a wide index -/
theorem vx_throwSW {cc : ByteArray} {pc : Nat} (hexec : p.tables.exec = Jvm.exec) (hb : c.code = cc) (hl : l.stackTraces = false) {own cls text : String} {names : List String} {ik is ic mc ms sa : Nat} {A : Nat → Prop}
    (hown : s.vm.findClass own = some m.cls) (hcls : Bundle.fit cls = true) (hnames : ∀ n ∈ names, Bundle.fit n = true)
    (hk : (Cond.classLink own ik cls).before args s = true) (hini : (Cond.initialized cls).before args s = true) (hstr : vk_R own is text sa s) (hat : ∀ w ∈ vx_atS own ic cls names, w.before args s = true)
    (hgood : ∀ w ∈ Cond.classLink own ik cls :: Cond.initialized cls :: vx_atS own ic cls names, vx_ot w = true)
    (hU : vx_Zq Bundle.tN "UNASSIGNED_STACK" Bundle.steD A s s.heap) (hN : vx_Zq Bundle.tN "SUPPRESSED_SENTINEL" Bundle.listD A s s.heap) (hS : va_S A s.heap H locs) (hsize : ls.size = c.maxLocals)
    (d0 : decode cc pc = .ok (.new ik, 3)) (d3 : decode cc (pc + 3) = .ok (.dup, 1)) (d4 : decode cc (pc + 4) = .ok (.ldc_w is, 3)) (d7 : decode cc (pc + 7) = .ok (.invokespecial ic, 3)) (d10 : decode cc (pc + 10) = .ok (.athrow, 1))
    (hout : ∀ x ∈ c.exceptionTable.toList, covers x (pc + 10) = false)
    (hRframes : names.length + 3 < R.frames) (hRlocals : (rest.map fun v => v.category).sum + (13 * (names.length + 1) + 43) ≤ R.locals) (hRcells : cells + 1 ≤ R.cells) (hRslots : slots + 6 ≤ R.slots) (hlocks : meth.locks = false)
    (hx : ∀ t : State, s.vm.Alike t.vm → H.size ≤ t.heap.size → (∀ q : Nat, q < H.size → t.heap[q]? = H[q]?) → XC cls s t)
    (hf : ∀ z ∈ locs, free z.base) (hc : cells + 1 ≤ mc) (hs : slots + 6 ≤ ms) :
    W p l e R s m args below meth c H locs cells slots (vx_MQ below Qc XC args s mc ms free) (F0 m pc ls rest) := by
  intro T hT X
  have htr : e.platform.stackTraces = false := (show e.platform.stackTraces = l.stackTraces by rw [X.admits.platform]).trans hl
  have Y := vx_rebase X (R' := { frames := R.frames, locals := R.locals, cells := 1, slots := 6 }) (Nat.le_refl _) (Nat.le_refl _) hRcells hRslots
  obtain ⟨s', hA⟩ : ∃ z, z = (T.setVm s.vm).setFrames (.invoking m args :: below) := ⟨_, rfl⟩
  rw [← hA] at Y
  have hvm : s'.vm = s.vm := by rw [hA]; rfl
  have hhp : s'.heap = H := by rw [hA]; exact hT
  have hW0 : s.WarmedH s'.vm := by rw [hvm]; exact State.WarmedH.refl s
  have hat' : ∀ w ∈ vx_atS own ic cls names, w.before args s' = true := fun w hw => vx_ot_at hW0 hvm.symm (hgood w (List.mem_cons_of_mem _ (List.mem_cons_of_mem _ hw))) (hat w hw)
  have hk' : (Cond.classLink own ik cls).before args s' = true := vx_ot_at hW0 hvm.symm (hgood _ List.mem_cons_self) hk
  have hini' : (Cond.initialized cls).before args s' = true := vx_ot_at hW0 hvm.symm (hgood _ (List.mem_cons_of_mem _ List.mem_cons_self)) hini
  have hU' : vx_Zq Bundle.tN "UNASSIGNED_STACK" Bundle.steD A s' s'.heap := by rw [hhp]; exact vx_Zq.moved hW0.alike (hU.kept hS.2.1)
  have hN' : vx_Zq Bundle.tN "SUPPRESSED_SENTINEL" Bundle.listD A s' s'.heap := by rw [hhp]; exact vx_Zq.moved hW0.alike (hN.kept hS.2.1)
  have h : ∀ w ∈ Bundle.ownAtoms own ic cls names, w.before args s' = true := vx_own hat' (vx_isRefq hU'.1) (vx_isRefq hN'.1) hU'.2.word hN'.2.word
  have hown' : s'.vm.findClass own = some m.cls := by rw [hvm]; exact hown
  have hins : (Cond.instantiable cls 6).before args s' = true := h _ (by simp [Bundle.ownAtoms])
  obtain ⟨vm₁, cX, kX, hfX, hkX, -, -, X₁, st1⟩ := Y.newCold hexec (own := own) (C := cls) (index := ik) (n := 6) hown' hk' hins hini'
    (g := F0 m pc ls rest) rfl (by rw [hb]; exact d0) (Nat.le_refl _) (Nat.le_refl _)
  generalize hT1 : (T.setVm vm₁).pushCell { cls := cX, slots := kX.instanceTypes.map defaultValue, vm := .none } = T1 at X₁ st1
  have hcat : (Value.ref T.heap.size).category = 1 := rfl
  have hcellA : T1.heap[T.heap.size]? = some (freshCell cX kX) := by rw [← hT1]; exact State.heap_pushCell_size _ _
  have d3' : decode c.code (pc + 3) = .ok (.dup, 1) := by rw [hb]; exact d3
  have d4' : decode c.code (pc + 4) = .ok (.ldc_w is, 3) := by rw [hb]; exact d4
  have hstr' : vk_R own is text sa s' := vk_R.warm hW0 hstr
  obtain ⟨U, hsteps, hrun, hend, hW, hsame, ce, hce, hO⟩ := X₁.ctorThrowS hexec htr (own := own) (cls := cls) (names := names) (ic := ic) hown' hcls hnames h (fun x hx => nomatch hx) hfX hkX hcellA (by rw [hhp, hT]; exact Nat.le_refl _) (msg := .ref sa) rfl
    (g := { method := m, pc := pc + 7, locals := ls, stack := .ref sa :: .ref T.heap.size :: .ref T.heap.size :: rest, locked := none }) rfl hsize rfl rfl (rest := rest) rfl
    (by rw [hb]; exact d7) (by rw [hb]; exact d10) hout hRframes (by simp only [List.map_cons, List.sum_cons, hcat]; omega) hlocks
  obtain ⟨f1, f2⟩ := vx_frame hsame
  rw [hhp] at f1 f2
  have hWs : s.WarmedH U.vm := State.WarmedH.trans hW0 hW
  have hcl : s.vm.findClass cls = some ce.cls := by
    have h9 := hO.cls
    rw [hvm] at h9
    exact h9
  have hall : s.sameButNew ({ U with vm := s.vm } : State) locs mc ms := by
    subst hA
    obtain ⟨e1, e2⟩ := hsame
    rw [State.setFrames_setFrames] at e1
    have h2 : (T.setVm s.vm).sameButNew ({ U with vm := s.vm } : State) [] (0 + 1) (0 + 6) := ⟨e1, e2⟩
    have h3 := X.same.trans h2
    rw [List.append_nil] at h3
    exact h3.mono hc hs
  refine ⟨U, ?_, .threw T.heap.size, hrun, hend, Or.inr ⟨T.heap.size, rfl, cls, ce, locs, hx U hWs.alike f1 (fun q hq => f2 q hq (fun z hz => nomatch hz)), hce, hO.vm, hcl, hWs, hall, hf⟩⟩
  refine st1 _ ?_
  show Steps p.tables e below (T1.setTop { method := m, pc := pc + 3, locals := ls, stack := .ref T.heap.size :: rest, locked := none }) _
  jvm_step X₁.here [X₁.here.top, hexec, d3', Value.category]
  exact X₁.ldcStringW hexec (own := own) (text := text) (index := is) (a := sa) hown' hstr'.1 hstr'.2
    (g := { method := m, pc := pc + 4, locals := ls, stack := .ref T.heap.size :: .ref T.heap.size :: rest, locked := none }) rfl d4' _ hsteps
end Ends
section Bodies
variable {l : Launch}
theorem vx_ofW {y : MethodName} {ws ws' : List Cond} {rm : Room} {Pc : Array Value → State → Prop} {Qc : Array Value → State → Outcome → State → Prop} {XC : String → State → State → Prop} {mc ms : Nat} {free : Addr → Prop} {cc : ByteArray} {maxL : Nat} {ret : Option FieldType}
    (hy : plainName y.cls = true) (hw : ws = Cond.code y cc maxL ret :: ws')
    (body : ∀ p e s m args below meth c s₁, BodyLoose p l y (headSpec ws rm) cc maxL ret e s m args below meth c s₁ → c.maxLocals = maxL → (∀ x ∈ c.exceptionTable.toList, False) → Pc args s →
      W p l e (headSpec ws rm).room s m args below meth c s.heap [] 0 0 (vx_MQ below Qc XC args s mc ms free) (entryFrame m args maxL)) : vx_Met l y ws rm Pc Qc XC mc ms free := by
  refine MetFree.of_bodyS (code := cc) (maxLocals := maxL) (ret := ret) hy ?_ ?_
  · intro args s m h hn
    obtain ⟨meth, c, h1, h2, h3, h4, h5, h6, -, -⟩ := Cond.code_spec hn (atoms_spec (ws := ws) h _ (by rw [hw]; exact List.mem_cons_self))
    exact ⟨meth, c, h1, h2, h3, h4, h5, h6⟩
  · intro p e s m args below meth c s₁ B hml hP _
    have hh0 : s₁.heap = s.heap := by rw [B.state]; rfl
    have ht : ∀ x ∈ c.exceptionTable.toList, False := by
      obtain ⟨meth9, c9, h1, h2, -, -, -, -, h7, -⟩ := Cond.code_spec B.named (atoms_spec (ws := ws) B.pre _ (by rw [hw]; exact List.mem_cons_self))
      cases Option.some.inj (h1.symm.trans B.method)
      cases Option.some.inj (h2.symm.trans (Stand.of_body B).code)
      intro x hx
      rw [Array.isEmpty_iff.mp h7] at hx
      cases hx
    obtain ⟨t, a1, o, b1, b2, b3⟩ := body p e s m args below meth c s₁ B hml ht hP s₁ hh0 (Stand.of_body B)
    exact ⟨t, o, a1, b1, b2, b3⟩
/-- the table of a body with handlers -/
theorem vx_table {p : Program} {x y : MethodName} {S : Spec} {cc bytes : ByteArray} {maxL maxL' : Nat} {ret ret' : Option FieldType} {e : Env} {s s₁ : State} {m : MethodId} {args : Array Value} {below : List Frame} {meth : Method} {c : Code} {hh : List (Nat × Nat × Nat × Nat)}
    (B : BodyLoose p l y S cc maxL ret e s m args below meth c s₁) (h : (Cond.codeWith y bytes maxL' ret' hh).before args s = true) : c.exceptionTable.toList = tableOf hh := by
  obtain ⟨m9, meth9, c9, hn9, h1, h2, -, -, h6, -⟩ := Cond.codeWith_spec h
  cases Option.some.inj (hn9.symm.trans B.named)
  cases Option.some.inj (h1.symm.trans B.method)
  cases Option.some.inj (h2.symm.trans (Stand.of_body B).code)
  rw [← h6, table_eq]
end Bodies
end VXA
/-! ===== END ===== -/
/-! ===== BEGIN a static call of a method with an exception table ===== -/
section VXS
variable {p : Program} {l : Launch} {e : Env} {R : Room} {s : State} {m : MethodId} {args : Array Value} {below : List Frame} {meth : Method} {c : Code} {T : State} {H : Heap} {locs : List Loc} {cells slots : Nat}
abbrev vx_CSW (R : Room) (s : State) (args : Array Value) (own : String) (index : Nat) (y : MethodName) (bytes : ByteArray) (maxL : Nat) (ret : Option FieldType) (hh : List (Nat × Nat × Nat × Nat)) (ws : List Cond) (rm : Room) (mc ms n : Nat) : Prop :=
  (rm.cells = mc ∧ rm.slots = ms ∧ rm.frames + 1 ≤ R.frames ∧ 8 + (maxL + 11) + rm.locals ≤ R.locals ∧ (∀ w ∈ ws, ∀ (a' : Array Value) (U : State), s.WarmedH U.vm → w.before a' U = true) ∧ Cond.codeWith y bytes maxL ret hh ∈ ws) ∧
  (Cond.codeWith y bytes maxL ret hh).before args s = true ∧ (Cond.initialized y.cls).before args s = true ∧ (y.cls ≠ "java/lang/invoke/MethodHandle" ∧ y.cls ≠ "java/lang/invoke/VarHandle") ∧
  (∀ sig, parseMethodDescriptor y.desc = some sig → n = sig.parameters.length) ∧ (Cond.methodLink own index y).before args s = true ∧ (Cond.static y).before args s = true
theorem vx_cwSW {own : String} {index maxL mc ms : Nat} {y : MethodName} {bytes : ByteArray} {ret : Option FieldType} {hh : List (Nat × Nat × Nat × Nat)} {Ts ws ws' : List Cond} {rm : Room} (n : Nat) (ht : ∀ w ∈ Ts, w.before args s = true) (hT : GoodIn Ts (va_wsS own index y ws)) (hw : ws = Cond.codeWith y bytes maxL ret hh :: ws') (hrc : rm.cells = mc) (hrs : rm.slots = ms)
    (hd : y.cls ≠ "java/lang/invoke/MethodHandle" ∧ y.cls ≠ "java/lang/invoke/VarHandle" ∧ (parseMethodDescriptor y.desc).map (fun d => d.parameters.length) = some n) (hR : rm.frames + 1 ≤ R.frames ∧ 8 + (maxL + 11) + rm.locals ≤ R.locals) :
    vx_CSW R s args own index y bytes maxL ret hh ws rm mc ms n := by
  have ok : ∀ w ∈ va_wsS own index y ws, w.before args s = true := fun w h => ht w (hT w h).1
  have hG : GoodIn Ts ws := fun w h => hT w (by unfold va_wsS; exact List.mem_append_right _ h)
  have hc : Cond.codeWith y bytes maxL ret hh ∈ ws := by rw [hw]; exact List.mem_cons_self
  refine ⟨⟨hrc, hrs, hR.1, hR.2, pay_in ht hG, hc⟩, ht _ (hG _ hc).1, ok _ (by simp [va_wsS]), ⟨hd.1, hd.2.1⟩, fun sig h => ?_, ok _ (by simp [va_wsS]), ok _ (by simp [va_wsS])⟩
  have h2 := hd.2.2
  rw [h] at h2
  exact (Option.some.inj h2).symm
theorem vx_callSW (X : Stand p l e R s m args below meth c T locs cells slots) (hexec : p.tables.exec = Jvm.exec) {own : String} {index : Nat} {y : MethodName} {bytes : ByteArray} {maxL : Nat} {ret : Option FieldType} {hh : List (Nat × Nat × Nat × Nat)}
    (hown : s.vm.findClass own = some m.cls) (hlink : (Cond.methodLink own index y).before args s = true) (hstat : (Cond.static y).before args s = true) (hinit : (Cond.initialized y.cls).before args s = true)
    (hcode : (Cond.codeWith y bytes maxL ret hh).before args s = true) (hy : y.cls ≠ "java/lang/invoke/MethodHandle" ∧ y.cls ≠ "java/lang/invoke/VarHandle")
    {W9 : Nat} {Pre : Pt → Array Value → Prop} {Post : Pt → Array Value → Option Value → Pt → Prop} (hK : Back l R p e below s args y 3 W9 Pre Post)
    {g : JFrame} (hg : g.method = m) (hsize : g.locals.size = c.maxLocals) {argsL rest : List Value} (hlen : ∀ sig, parseMethodDescriptor y.desc = some sig → argsL.length = sig.parameters.length)
    (hstack : g.stack = argsL.reverse ++ rest) (hW : 2 * g.monitorRoom + (rest.map fun v => v.category).sum ≤ W9) (hdg : decode c.code g.pc = .ok (.invokestatic index, 3))
    (hpre : ∀ vm₁, s.WarmedH vm₁ → Pre ⟨T.setVm vm₁, locs, cells, slots⟩ argsL.toArray) :
    ∃ (v : Option Value) (vm₁ : Vm) (B : Pt), s.WarmedH vm₁ ∧ Stand p l e R s m args below meth c B.U B.locs B.cells B.slots ∧ Post ⟨T.setVm vm₁, locs, cells, slots⟩ argsL.toArray v B ∧
      ∀ target, Steps p.tables e below (B.U.setTop { g with pc := g.pc + 3, stack := v.toList ++ rest }) target → Steps p.tables e below (T.setTop g) target := by
  obtain ⟨mk, methM, cM, hnamed, hmethM, -, -, -, -, -, -, hsigM⟩ := Cond.codeWith_spec hcode
  have hstatic : methM.isStatic = true := Cond.static_spec hnamed hmethM hstat
  obtain ⟨kP, hkP, -⟩ := className_of_methodNamed hnamed
  have hinitP : kP.init = .initialized := Cond.initialized_spec (findClass_of_methodNamed hnamed) hkP hinit
  obtain ⟨vm₁, X₁, hstep₁⟩ := X.invokestatic hexec hown hlink hnamed hmethM hstatic hkP hinitP hy (g := g) hg (argsL := argsL) (rest := rest) (hlen _ hsigM) hstack hdg
  obtain ⟨v, B, X', hpost, hsteps⟩ := hK m meth c ⟨T.setVm vm₁, locs, cells, slots⟩ { g with stack := rest } (.invokestatic index) mk argsL.toArray X₁ hg hsize hdg hW (X₁.named hnamed) (hpre vm₁ X₁.warmed)
  exact ⟨v, vm₁, B, X₁.warmed, X', hpost, fun target h => hstep₁ _ fun acts => by rw [doInvoke_state]; exact hsteps.trans h⟩
theorem vx_runSW {y : MethodName} {bytes cc : ByteArray} {maxL nL mc ms n index : Nat} {ret : Option FieldType} {hh : List (Nat × Nat × Nat × Nat)} {ws : List Cond} {rm : Room} {Pc : Array Value → State → Prop} {Qc : Array Value → State → Outcome → State → Prop} {free : Addr → Prop} {Ts : List Cond} {own : String} {As rest : List Value} {g : JFrame}
    (S : CallFix p m c cc nL s args Ts own) (hM : Met l y ws rm Pc Qc mc ms free) (cw : vx_CSW R s args own index y bytes maxL ret hh ws rm mc ms n) (hp : PreS s H Pc As)
    (hg : g.method = m) (hn : As.length = n) (hsize : g.locals.size = nL) (hstack : g.stack = As.reverse ++ rest) (hW : 2 * g.monitorRoom + (rest.map fun v => v.category).sum ≤ 8) (hdg : decode cc g.pc = .ok (.invokestatic index, 3)) (hf : cells + mc ≤ R.cells ∧ slots + ms ≤ R.slots) :
    va_Run p l e R s m args below meth c H locs cells slots mc ms g rest (Qc As.toArray) (free) := by
  obtain ⟨⟨hrc, hrs, hfr, hlo, hws, hcw⟩, hcode, hini, hy, hlen, hl, hstt⟩ := cw
  have hK : Back l R p e below s args y 3 8 (PreOf R mc ms Pc) (PostOf Qc mc ms free) := va_backW (hh := hh) (bytes := bytes) (maxL := maxL) (ret := ret) hM hp.1 hrc hrs hfr hlo hws hcw (fun a' U hW => word_at hW (Or.inl (by first | rfl | simp [Cond.onTables, Cond.keeps, Cond.steady])) hini)
  obtain ⟨hx, hb, hml, ho, -⟩ := S
  intro T hT X
  obtain ⟨v, vm₁, ⟨U', l2, c2, s2⟩, hW₁, X', ⟨g', mk, t, L, e1, e2, hq, h1, hL, h2, h3⟩, st⟩ := vx_callSW X hx (hh := hh) (bytes := bytes) (maxL := maxL) (ret := ret) ho hl hstt hini hcode hy hK hg (hsize.trans hml.symm) (argsL := As) (rest := rest) (fun sig h => hn.trans (hlen sig h)) hstack hW (by rw [hb]; exact hdg)
    (fun vm₁ hW₁ => ⟨hf.1, hf.2, hp.2 (T.setVm vm₁) hT hW₁⟩)
  dsimp only [Pt.U, Pt.locs, Pt.cells, Pt.slots] at X' e1 e2 h1 h2 h3 st
  subst h1; subst h2; subst h3
  exact ⟨v, (T.setVm vm₁).calling g' mk As.toArray, t, U', L, hT, X', hL, e1, e2, hq, st⟩
/-- not caught here, past rows that name other classes: it goes on to the caller -/
theorem vx_outP {p : Program} {l : Launch} {e : Env} {R : Room} {s : State} {m : MethodId} {args : Array Value} {below : List Frame} {meth : Method} {c : Code} {H : Heap} {locs : List Loc} {cells slots : Nat} {free : Addr → Prop} {ls : Array Slot} {rest : List Value} {Qc : Array Value → State → Outcome → State → Prop} {XC : String → State → State → Prop}
    {pc : Nat} {own E : String} {ce : Cell} {q : Addr} {mc ms : Nat} (hown : s.vm.findClass own = some m.cls) (hlocks : meth.locks = false)
    (hpass : ∀ z ∈ c.exceptionTable.toList, covers z pc = false ∨ (z.catchType ≠ 0 ∧ ∃ nm : String, (Cond.classLink own z.catchType nm).before args s = true ∧ va_Nc E nm s)) (hcell : H[q]? = some ce) (hv : ce.vm = .none) (hcl : s.vm.findClass E = some ce.cls)
    (hx : ∀ t : State, t.heap = H → s.vm.Alike t.vm → XC E s t) (hf : ∀ z ∈ locs, free z.base) (hc : cells ≤ mc) (hs : slots ≤ ms) :
    vx_W p l e R s m args below meth c H locs cells slots (vx_MQ below Qc XC args s mc ms free) (F0 m pc ls rest) q := by
  intro T hT X
  have hpl : e.platform.magicAccessors = ({} : Platform).magicAccessors := by rw [X.admits.platform]
  obtain ⟨vm', hW', X', st⟩ := X.outThrough hlocks q (g := F0 m pc ls rest) rfl rfl rfl (cell := ce) (by rw [hT]; exact hcell) (by rw [hv]; rfl)
    (by obtain ⟨k9, h9, -⟩ := Vm.findClass_spec hcl; exact ⟨k9, h9⟩) (fun z hz => by
      rcases hpass z hz with h | ⟨hz0, nm, hl1, hn1⟩
      · exact Or.inl h
      · obtain ⟨c6, hc6, hcl6⟩ := Cond.classLink_spec hown hl1 e.platform hpl
        obtain ⟨a8, b8, h1, h2, h3⟩ := hn1
        cases Option.some.inj (h1.symm.trans hcl)
        cases Option.some.inj (h2.symm.trans hc6)
        exact Or.inr ⟨hz0, _, hcl6, h3⟩)
  obtain ⟨g₀, hfr⟩ := X'.frames_eq
  have hcell9 : ((T.setVm vm').setFrames (.throwing q :: below)).heap[q]? = some ce := by
    show T.heap[q]? = some ce
    rw [hT]; exact hcell
  have hend : Ended ((T.setVm vm').setFrames (.throwing q :: below)) below (.threw q) := State.frames_setFrames _ (State.cur_lt_of_frames hfr)
  refine ⟨(T.setVm vm').setFrames (.throwing q :: below), ?_, .threw q, X'.here.running, hend, Or.inr ⟨q, rfl, E, ce, locs, hx _ hT (X'.ends _).1.alike, hcell9, hv, hcl, (X'.ends _).1, (X'.ends _).2.mono hc hs, hf⟩⟩
  rw [X.pushThrowing_eq]
  exact st
/-- a thing of a world lies in the heap -/
theorem vx_lt {D : va_G} {cl : List vw_C} {ws : va_W} {H1 : Heap} (h : va_P D cl ws H1) {k : Nat} {q : Nat × va_E} (hk : ws[k]? = some q) : q.1 < H1.size := (h k q hk).lt
end VXS
/-! ===== END ===== -/
/-! ===== BEGIN methods with a table of their own: called by a name, returning or throwing ===== -/
section VXH
/-! vx_backW, vx_callVX, vx_callSX, vx_callVW, vx_runVW, vx_runVX, vx_runSX, vx_ofWH follow the same proofs as their sisters above (Free/Laws.lean, Shelf42/LK1.lean); vx_outP calls Shelf42/NT130.lean (outThrough). -/
section
variable {l : Launch} {R : Room} {p : Program} {e : Env} {below : List Frame} {s : State} {sargs : Array Value} {y : MethodName} {len W9 : Nat}
theorem vx_backW {ws : List Cond} {rm : Room} {Pc : Array Value → State → Prop} {Qc : Array Value → State → Outcome → State → Prop} {XC : String → State → State → Prop} {mc ms : Nat} {free : Addr → Prop} {bytes : ByteArray} {maxL : Nat} {ret : Option FieldType} {hh : List (Nat × Nat × Nat × Nat)}
    (hM : vx_Met l y ws rm Pc Qc XC mc ms free) (hblind : FrameBlind Pc) (hrc : rm.cells = mc) (hrs : rm.slots = ms)
    (hframes : rm.frames + 1 ≤ R.frames) (hlocals : W9 + (maxL + 11) + rm.locals ≤ R.locals)
    (hws : ∀ w ∈ ws, ∀ a' U, s.WarmedH U.vm → w.before a' U = true) (hcode : Cond.codeWith y bytes maxL ret hh ∈ ws) (hinit : ∀ a' U, s.WarmedH U.vm → (Cond.initialized y.cls).before a' U = true) :
    vx_Back l R p e below s sargs y len W9 (PreOf R mc ms Pc) (PostOf Qc mc ms free) (vx_Post XC mc ms free) := by
  intro m meth c A g ig mk a X hg hsize hdg hW hn hp
  have h1 : (headSpec ws rm).pre.before a A.U = true := atoms_intro fun w hw => hws w hw _ _ X.warmed
  have h2 : (Cond.codeWith y bytes maxL ret hh).before a A.U = true := hws _ hcode _ _ X.warmed
  have h3 : (Cond.initialized y.cls).before a A.U = true := hinit _ _ X.warmed
  have h4 : A.cells + (headSpec ws rm).room.cells ≤ R.cells := by rw [show (headSpec ws rm).room.cells = mc from hrc]; exact hp.1
  have h5 : A.slots + (headSpec ws rm).room.slots ≤ R.slots := by rw [show (headSpec ws rm).room.slots = ms from hrs]; exact hp.2.1
  have hPc : Pc a (A.U.calling g mk a) := hblind _ _ _ _ hp.2.2
  obtain ⟨U, Ls, c0, s0⟩ := A
  dsimp only [Pt.U, Pt.locs, Pt.cells, Pt.slots] at h1 h2 h3 h4 h5 X hn hPc ⊢
  obtain ⟨m9, methY, cY, hn9, hmY, hcY, -, hlY, -⟩ := Cond.codeWith_spec h2
  cases Option.some.inj (hn9.symm.trans hn)
  obtain ⟨kY, hkY, -⟩ := className_of_methodNamed hn
  have hinitY : kY.init = .initialized := Cond.initialized_spec (findClass_of_methodNamed hn) hkY h3
  have h : At U g.method c below := by rw [hg]; exact X.here
  have hlocals9 : W9 + (maxL + 11) + (headSpec ws rm).room.locals ≤ R.locals := hlocals
  have happ : (headSpec ws rm).appliesLoose y e.platform (U.calling g mk a) = true :=
    Spec.appliesLoose_calling (g := g) h hdg hn hkY hinitY
      (X.room_calling (g := g) (R' := (headSpec ws rm).room) hsize hmY hcY hframes (by rw [hlY]; omega) h4 h5) h1
  obtain ⟨mid, hmid⟩ := h.above
  have hfr : (U.setTop g).frames = (.java g :: mid) ++ below := by rw [State.frames_setTop' g h.top, hmid]; rfl
  obtain ⟨o, s₂, hsteps, -, hend, hq⟩ := Steps.callFree hM p X.admits X.cas X.clock (acts := []) hfr happ hPc trivial
  have hq' : vx_Q Qc XC mc ms free a (U.calling g mk a) o s₂ := hq
  rw [State.frames_setTop' g h.top] at hend
  obtain ⟨g₀, hg0⟩ := Option.isSome_iff_exists.mp h.top
  obtain ⟨r, hr⟩ := State.topJava?_eq_some.mp hg0
  have hr' : (({ U with heap := s₂.heap, slotsUsed := s₂.slotsUsed } : State).setVm s₂.vm).frames = .java g₀ :: r := hr
  rcases hq' with ⟨hqc, L, hfe, hL⟩ | ⟨q, rfl, E, ce, L, hx, hce, hcv, hcl, hW₂, hsm, hL⟩
  · obtain ⟨⟨v, rfl⟩, hW₂, e2, q2, q3, q4, q5, q6⟩ := id hfe
    have e3 : s₂ = ({ (U.calling g mk a).setFrames s₂.frames with heap := s₂.heap, slotsUsed := s₂.slotsUsed } : State).setVm s₂.vm := by
      have : s₂ = ({ s₂ with vm := (U.calling g mk a).vm } : State).setVm s₂.vm := rfl
      rw [e2] at this
      exact this
    obtain ⟨c₂, i₂, len₂, hc₂, hd₂, hf₂⟩ := hend
    have hW' : U.WarmedH s₂.vm := hW₂
    have hcc : c₂ = c := by
      have h1 : s₂.code? g.method = U.code? g.method := by
        rw [State.code?_eq, State.code?_eq, hW'.alike.method?]
      exact Option.some.inj (hc₂.symm.trans (h1.trans h.code))
    subst hcc
    have hlen : len₂ = len := by rw [hdg] at hd₂; cases hd₂; rfl
    subst hlen
    have hs₂ : s₂ = (({ U with heap := s₂.heap, slotsUsed := s₂.slotsUsed } : State).setVm s₂.vm).setTop { g with pc := g.pc + len₂, stack := v.toList ++ g.stack } := by
      refine e3.trans ?_
      rw [hf₂, State.calling_eq h.top, State.setFrames_setFrames, State.setTop_of_frames _ hr', hr]
      rfl
    have hsame : U.sameButNew ({ U with heap := s₂.heap, slotsUsed := s₂.slotsUsed } : State) L mc ms := by
      refine ⟨?_, q2, q3, q4, q5, q6⟩
      obtain ⟨t, ht, -⟩ := State.frames_cons hr
      show ({ U with heap := s₂.heap, slotsUsed := s₂.slotsUsed } : State) = { U.setFrames U.frames with heap := s₂.heap, slotsUsed := s₂.slotsUsed }
      rw [State.setFrames_self ht]
    subst hg
    refine Or.inl ⟨v, ⟨(({ U with heap := s₂.heap, slotsUsed := s₂.slotsUsed } : State).setVm s₂.vm), Ls ++ L, c0 + mc, s0 + ms⟩,
      ⟨X.admits, X.cas, X.clock, X.frames, X.room, X.hears, X.method, X.code, (X.here.setHeapUsed s₂.heap s₂.slotsUsed).setVm hW'.alike, X.tail, State.WarmedH.trans X.warmed hW', X.limits, X.bytes, X.same.trans (hsame.setVm s.vm)⟩,
      ⟨g, mk, s₂, L, rfl, rfl, hqc, rfl, hL, rfl, rfl⟩, ?_⟩
    show Steps p.tables e below _ ((({ U with heap := s₂.heap, slotsUsed := s₂.slotsUsed } : State).setVm s₂.vm).setTop { g with pc := g.pc + len₂, stack := v.toList ++ g.stack })
    rw [← hs₂]
    exact hsteps
  · obtain ⟨e2, q2, q3, q4, q5, q6⟩ := id hsm
    have e3 : s₂ = ({ (U.calling g mk a).setFrames s₂.frames with heap := s₂.heap, slotsUsed := s₂.slotsUsed } : State).setVm s₂.vm := by
      have : s₂ = ({ s₂ with vm := (U.calling g mk a).vm } : State).setVm s₂.vm := rfl
      rw [e2] at this
      exact this
    have hf₂ : s₂.frames = .throwing q :: .java g :: U.frames.tail := hend
    have hW' : U.WarmedH s₂.vm := hW₂
    have hs₂ : s₂ = ((({ U with heap := s₂.heap, slotsUsed := s₂.slotsUsed } : State).setVm s₂.vm).setTop g).pushFrame (.throwing q) := by
      refine e3.trans ?_
      rw [hf₂, State.calling_eq h.top, State.setFrames_setFrames, State.pushFrame, State.frames_setTop _ hr', State.setTop_of_frames _ hr', State.setFrames_setFrames, hr]
      rfl
    have hsame : U.sameButNew ({ U with heap := s₂.heap, slotsUsed := s₂.slotsUsed } : State) L mc ms := by
      refine ⟨?_, q2, q3, q4, q5, q6⟩
      obtain ⟨t, ht, -⟩ := State.frames_cons hr
      show ({ U with heap := s₂.heap, slotsUsed := s₂.slotsUsed } : State) = { U.setFrames U.frames with heap := s₂.heap, slotsUsed := s₂.slotsUsed }
      rw [State.setFrames_self ht]
    subst hg
    refine Or.inr ⟨q, ⟨(({ U with heap := s₂.heap, slotsUsed := s₂.slotsUsed } : State).setVm s₂.vm), Ls ++ L, c0 + mc, s0 + ms⟩,
      ⟨X.admits, X.cas, X.clock, X.frames, X.room, X.hears, X.method, X.code, (X.here.setHeapUsed s₂.heap s₂.slotsUsed).setVm hW'.alike, X.tail, State.WarmedH.trans X.warmed hW', X.limits, X.bytes, X.same.trans (hsame.setVm s.vm)⟩,
      ⟨g, mk, s₂, L, E, ce, rfl, rfl, hx, hce, hcv, hcl, rfl, hL, rfl, rfl⟩, ?_⟩
    show Steps p.tables e below _ (((({ U with heap := s₂.heap, slotsUsed := s₂.slotsUsed } : State).setVm s₂.vm).setTop g).pushFrame (.throwing q))
    rw [← hs₂]
    exact hsteps
end
variable {p : Program} {l : Launch} {e : Env} {R : Room} {s : State} {m : MethodId} {args : Array Value} {below : List Frame} {meth : Method} {c : Code} {T : State} {H : Heap} {locs : List Loc} {cells slots : Nat}
theorem vx_callVX (X : Stand p l e R s m args below meth c T locs cells slots) (hexec : p.tables.exec = Jvm.exec) {own C : String} {index : Nat} {y : MethodName} {bytes : ByteArray} {maxL : Nat} {ret : Option FieldType} {hh : List (Nat × Nat × Nat × Nat)}
    (hown : s.vm.findClass own = some m.cls) (hlink : (Cond.methodLink own index y).before args s = true) (hinst : (Cond.instanceMethod y).before args s = true) (hsel : (Cond.selects C y y).before args s = true)
    (hcode : (Cond.codeWith y bytes maxL ret hh).before args s = true) (hy : y.cls ≠ "java/lang/invoke/MethodHandle" ∧ y.cls ≠ "java/lang/invoke/VarHandle")
    {W9 : Nat} {Pre : Pt → Array Value → Prop} {Post : Pt → Array Value → Option Value → Pt → Prop} {PostX : Pt → Array Value → Addr → Pt → Prop} (hK : vx_Back l R p e below s args y 3 W9 Pre Post PostX)
    {b : Addr} {cellB : Cell} (hcell : T.heap[b]? = some cellB) (hobj : cellB.vm.isStatics = false) (hcls : s.vm.findClass C = some cellB.cls)
    {g : JFrame} (hg : g.method = m) (hsize : g.locals.size = c.maxLocals) {argsL rest : List Value} (hlen : ∀ sig, parseMethodDescriptor y.desc = some sig → argsL.length = sig.parameters.length)
    (hstack : g.stack = argsL.reverse ++ .ref b :: rest) (hW : 2 * g.monitorRoom + (rest.map fun v => v.category).sum ≤ W9) (hdg : decode c.code g.pc = .ok (.invokevirtual index, 3))
    (hpre : ∀ vm₁, s.WarmedH vm₁ → Pre ⟨T.setVm vm₁, locs, cells, slots⟩ (Value.ref b :: argsL).toArray) :
    (∃ (v : Option Value) (vm₁ : Vm) (B : Pt), s.WarmedH vm₁ ∧ Stand p l e R s m args below meth c B.U B.locs B.cells B.slots ∧ Post ⟨T.setVm vm₁, locs, cells, slots⟩ (Value.ref b :: argsL).toArray v B ∧
      ∀ target, Steps p.tables e below (B.U.setTop { g with pc := g.pc + 3, stack := v.toList ++ rest }) target → Steps p.tables e below (T.setTop g) target) ∨
    (∃ (q : Addr) (vm₁ : Vm) (B : Pt), s.WarmedH vm₁ ∧ Stand p l e R s m args below meth c B.U B.locs B.cells B.slots ∧ PostX ⟨T.setVm vm₁, locs, cells, slots⟩ (Value.ref b :: argsL).toArray q B ∧
      Steps p.tables e below (T.setTop g) ((B.U.setTop { g with stack := rest }).pushFrame (.throwing q))) := by
  obtain ⟨mk, methM, hnamed, hmethM, hstM, habM⟩ := Cond.instanceMethod_spec hinst
  obtain ⟨m8, methM', cM, hn8, hmethM', -, -, -, -, -, -, hsigM⟩ := Cond.codeWith_spec hcode
  cases Option.some.inj (hn8.symm.trans hnamed)
  cases hmethM.symm.trans hmethM'
  obtain ⟨c2, r2, m2, q1, q2, q3, q4, kP, hkP, hkPi⟩ := Cond.selects_spec hsel
  cases hcls.symm.trans q1
  cases (State.methodFound?_of_named hnamed hy).symm.trans q2
  cases hnamed.symm.trans q3
  have hselP : selectMethod e.platform s.vm cellB.cls mk = .method mk := by rw [Launch.admits_selectMethod X.admits]; exact q4
  obtain ⟨vm₁, X₁, hstep₁⟩ := X.invokevirtual hexec hown hlink hnamed hmethM hstM hkP hkPi hy (a := b) (cell := cellB) hcell
    (fun z h => by rw [h] at hobj; cases hobj) hselP hmethM habM hkP hkPi (g := g) hg (argsL := argsL) (rest := rest) (hlen _ hsigM) hstack hdg
  rcases hK m meth c ⟨T.setVm vm₁, locs, cells, slots⟩ { g with stack := rest } (.invokevirtual index) mk (Value.ref b :: argsL).toArray X₁ hg hsize hdg hW (X₁.named hnamed) (hpre vm₁ X₁.warmed) with ⟨v, B, X', hpost, hsteps⟩ | ⟨q, B, X', hpost, hsteps⟩
  · exact Or.inl ⟨v, vm₁, B, X₁.warmed, X', hpost, fun target h => hstep₁ _ fun acts => by rw [doInvoke_state]; exact hsteps.trans h⟩
  · exact Or.inr ⟨q, vm₁, B, X₁.warmed, X', hpost, hstep₁ _ fun acts => by rw [doInvoke_state]; exact hsteps⟩
theorem vx_callSX (X : Stand p l e R s m args below meth c T locs cells slots) (hexec : p.tables.exec = Jvm.exec) {own : String} {index : Nat} {y : MethodName} {bytes : ByteArray} {maxL : Nat} {ret : Option FieldType} {hh : List (Nat × Nat × Nat × Nat)}
    (hown : s.vm.findClass own = some m.cls) (hlink : (Cond.methodLink own index y).before args s = true) (hstat : (Cond.static y).before args s = true) (hinit : (Cond.initialized y.cls).before args s = true)
    (hcode : (Cond.codeWith y bytes maxL ret hh).before args s = true) (hy : y.cls ≠ "java/lang/invoke/MethodHandle" ∧ y.cls ≠ "java/lang/invoke/VarHandle")
    {W9 : Nat} {Pre : Pt → Array Value → Prop} {Post : Pt → Array Value → Option Value → Pt → Prop} {PostX : Pt → Array Value → Addr → Pt → Prop} (hK : vx_Back l R p e below s args y 3 W9 Pre Post PostX)
    {g : JFrame} (hg : g.method = m) (hsize : g.locals.size = c.maxLocals) {argsL rest : List Value} (hlen : ∀ sig, parseMethodDescriptor y.desc = some sig → argsL.length = sig.parameters.length)
    (hstack : g.stack = argsL.reverse ++ rest) (hW : 2 * g.monitorRoom + (rest.map fun v => v.category).sum ≤ W9) (hdg : decode c.code g.pc = .ok (.invokestatic index, 3))
    (hpre : ∀ vm₁, s.WarmedH vm₁ → Pre ⟨T.setVm vm₁, locs, cells, slots⟩ argsL.toArray) :
    (∃ (v : Option Value) (vm₁ : Vm) (B : Pt), s.WarmedH vm₁ ∧ Stand p l e R s m args below meth c B.U B.locs B.cells B.slots ∧ Post ⟨T.setVm vm₁, locs, cells, slots⟩ argsL.toArray v B ∧
      ∀ target, Steps p.tables e below (B.U.setTop { g with pc := g.pc + 3, stack := v.toList ++ rest }) target → Steps p.tables e below (T.setTop g) target) ∨
    (∃ (q : Addr) (vm₁ : Vm) (B : Pt), s.WarmedH vm₁ ∧ Stand p l e R s m args below meth c B.U B.locs B.cells B.slots ∧ PostX ⟨T.setVm vm₁, locs, cells, slots⟩ argsL.toArray q B ∧
      Steps p.tables e below (T.setTop g) ((B.U.setTop { g with stack := rest }).pushFrame (.throwing q))) := by
  obtain ⟨mk, methM, cM, hnamed, hmethM, -, -, -, -, -, -, hsigM⟩ := Cond.codeWith_spec hcode
  have hstatic : methM.isStatic = true := Cond.static_spec hnamed hmethM hstat
  obtain ⟨kP, hkP, -⟩ := className_of_methodNamed hnamed
  have hinitP : kP.init = .initialized := Cond.initialized_spec (findClass_of_methodNamed hnamed) hkP hinit
  obtain ⟨vm₁, X₁, hstep₁⟩ := X.invokestatic hexec hown hlink hnamed hmethM hstatic hkP hinitP hy (g := g) hg (argsL := argsL) (rest := rest) (hlen _ hsigM) hstack hdg
  rcases hK m meth c ⟨T.setVm vm₁, locs, cells, slots⟩ { g with stack := rest } (.invokestatic index) mk argsL.toArray X₁ hg hsize hdg hW (X₁.named hnamed) (hpre vm₁ X₁.warmed) with ⟨v, B, X', hpost, hsteps⟩ | ⟨q, B, X', hpost, hsteps⟩
  · exact Or.inl ⟨v, vm₁, B, X₁.warmed, X', hpost, fun target h => hstep₁ _ fun acts => by rw [doInvoke_state]; exact hsteps.trans h⟩
  · exact Or.inr ⟨q, vm₁, B, X₁.warmed, X', hpost, hstep₁ _ fun acts => by rw [doInvoke_state]; exact hsteps⟩
theorem vx_callVW (X : Stand p l e R s m args below meth c T locs cells slots) (hexec : p.tables.exec = Jvm.exec) {own C : String} {index : Nat} {y : MethodName} {bytes : ByteArray} {maxL : Nat} {ret : Option FieldType} {hh : List (Nat × Nat × Nat × Nat)}
    (hown : s.vm.findClass own = some m.cls) (hlink : (Cond.methodLink own index y).before args s = true) (hinst : (Cond.instanceMethod y).before args s = true) (hsel : (Cond.selects C y y).before args s = true)
    (hcode : (Cond.codeWith y bytes maxL ret hh).before args s = true) (hy : y.cls ≠ "java/lang/invoke/MethodHandle" ∧ y.cls ≠ "java/lang/invoke/VarHandle")
    {W9 : Nat} {Pre : Pt → Array Value → Prop} {Post : Pt → Array Value → Option Value → Pt → Prop} (hK : Back l R p e below s args y 3 W9 Pre Post)
    {b : Addr} {cellB : Cell} (hcell : T.heap[b]? = some cellB) (hobj : cellB.vm.isStatics = false) (hcls : s.vm.findClass C = some cellB.cls)
    {g : JFrame} (hg : g.method = m) (hsize : g.locals.size = c.maxLocals) {argsL rest : List Value} (hlen : ∀ sig, parseMethodDescriptor y.desc = some sig → argsL.length = sig.parameters.length)
    (hstack : g.stack = argsL.reverse ++ .ref b :: rest) (hW : 2 * g.monitorRoom + (rest.map fun v => v.category).sum ≤ W9) (hdg : decode c.code g.pc = .ok (.invokevirtual index, 3))
    (hpre : ∀ vm₁, s.WarmedH vm₁ → Pre ⟨T.setVm vm₁, locs, cells, slots⟩ (Value.ref b :: argsL).toArray) :
    ∃ (v : Option Value) (vm₁ : Vm) (B : Pt), s.WarmedH vm₁ ∧ Stand p l e R s m args below meth c B.U B.locs B.cells B.slots ∧ Post ⟨T.setVm vm₁, locs, cells, slots⟩ (Value.ref b :: argsL).toArray v B ∧
      ∀ target, Steps p.tables e below (B.U.setTop { g with pc := g.pc + 3, stack := v.toList ++ rest }) target → Steps p.tables e below (T.setTop g) target := by
  obtain ⟨mk, methM, hnamed, hmethM, hstM, habM⟩ := Cond.instanceMethod_spec hinst
  obtain ⟨m8, methM', cM, hn8, hmethM', -, -, -, -, -, -, hsigM⟩ := Cond.codeWith_spec hcode
  cases Option.some.inj (hn8.symm.trans hnamed)
  cases hmethM.symm.trans hmethM'
  obtain ⟨c2, r2, m2, q1, q2, q3, q4, kP, hkP, hkPi⟩ := Cond.selects_spec hsel
  cases hcls.symm.trans q1
  cases (State.methodFound?_of_named hnamed hy).symm.trans q2
  cases hnamed.symm.trans q3
  have hselP : selectMethod e.platform s.vm cellB.cls mk = .method mk := by rw [Launch.admits_selectMethod X.admits]; exact q4
  obtain ⟨vm₁, X₁, hstep₁⟩ := X.invokevirtual hexec hown hlink hnamed hmethM hstM hkP hkPi hy (a := b) (cell := cellB) hcell
    (fun z h => by rw [h] at hobj; cases hobj) hselP hmethM habM hkP hkPi (g := g) hg (argsL := argsL) (rest := rest) (hlen _ hsigM) hstack hdg
  obtain ⟨v, B, X', hpost, hsteps⟩ := hK m meth c ⟨T.setVm vm₁, locs, cells, slots⟩ { g with stack := rest } (.invokevirtual index) mk (Value.ref b :: argsL).toArray X₁ hg hsize hdg hW (X₁.named hnamed) (hpre vm₁ X₁.warmed)
  exact ⟨v, vm₁, B, X₁.warmed, X', hpost, fun target h => hstep₁ _ fun acts => by rw [doInvoke_state]; exact hsteps.trans h⟩
abbrev vx_CVW (R : Room) (s : State) (args : Array Value) (own C : String) (index : Nat) (y : MethodName) (bytes : ByteArray) (maxL : Nat) (ret : Option FieldType) (hh : List (Nat × Nat × Nat × Nat)) (ws : List Cond) (rm : Room) (mc ms n : Nat) : Prop :=
  (rm.cells = mc ∧ rm.slots = ms ∧ rm.frames + 1 ≤ R.frames ∧ 8 + (maxL + 11) + rm.locals ≤ R.locals ∧ (∀ w ∈ ws, ∀ (a' : Array Value) (U : State), s.WarmedH U.vm → w.before a' U = true) ∧ Cond.codeWith y bytes maxL ret hh ∈ ws) ∧
  (Cond.codeWith y bytes maxL ret hh).before args s = true ∧ (Cond.initialized y.cls).before args s = true ∧ (y.cls ≠ "java/lang/invoke/MethodHandle" ∧ y.cls ≠ "java/lang/invoke/VarHandle") ∧
  (∀ sig, parseMethodDescriptor y.desc = some sig → n = sig.parameters.length) ∧ (Cond.methodLink own index y).before args s = true ∧ (Cond.instanceMethod y).before args s = true ∧ (Cond.selects C y y).before args s = true
theorem vx_cwVW {own C : String} {index maxL mc ms : Nat} {y : MethodName} {bytes : ByteArray} {ret : Option FieldType} {hh : List (Nat × Nat × Nat × Nat)} {Ts ws ws' : List Cond} {rm : Room} (n : Nat) (ht : ∀ w ∈ Ts, w.before args s = true) (hT : GoodIn Ts (wsV own index C y ws)) (hw : ws = Cond.codeWith y bytes maxL ret hh :: ws') (hrc : rm.cells = mc) (hrs : rm.slots = ms)
    (hd : y.cls = C ∧ y.cls ≠ "java/lang/invoke/MethodHandle" ∧ y.cls ≠ "java/lang/invoke/VarHandle" ∧ (parseMethodDescriptor y.desc).map (fun d => d.parameters.length) = some n) (hR : rm.frames + 1 ≤ R.frames ∧ 8 + (maxL + 11) + rm.locals ≤ R.locals) :
    vx_CVW R s args own C index y bytes maxL ret hh ws rm mc ms n := by
  obtain ⟨hC, hd⟩ := hd
  subst hC
  have ok : ∀ w ∈ wsV own index y.cls y ws, w.before args s = true := fun w h => ht w (hT w h).1
  have hG : GoodIn Ts ws := fun w h => hT w (by unfold wsV; exact List.mem_append_right _ h)
  have hc : Cond.codeWith y bytes maxL ret hh ∈ ws := by rw [hw]; exact List.mem_cons_self
  refine ⟨⟨hrc, hrs, hR.1, hR.2, pay_in ht hG, hc⟩, ht _ (hG _ hc).1, ok _ (by simp [wsV]), ⟨hd.1, hd.2.1⟩, fun sig h => ?_, ok _ (by simp [wsV]), ok _ (by simp [wsV]), ok _ (by simp [wsV])⟩
  have h2 := hd.2.2
  rw [h] at h2
  exact (Option.some.inj h2).symm
theorem vx_runVW {y : MethodName} {bytes cc : ByteArray} {maxL nL mc ms n index : Nat} {ret : Option FieldType} {hh : List (Nat × Nat × Nat × Nat)} {ws : List Cond} {rm : Room} {Pc : Array Value → State → Prop} {Qc : Array Value → State → Outcome → State → Prop} {free : Addr → Prop} {Ts : List Cond} {own C : String} {b : Addr} {As rest : List Value} {g : JFrame}
    (S : CallFix p m c cc nL s args Ts own) (hM : Met l y ws rm Pc Qc mc ms free) (cw : vx_CVW R s args own C index y bytes maxL ret hh ws rm mc ms n) (hp : PreV s H C b Pc As)
    (hg : g.method = m) (hn : As.length = n) (hsize : g.locals.size = nL) (hstack : g.stack = As.reverse ++ .ref b :: rest) (hW : 2 * g.monitorRoom + (rest.map fun v => v.category).sum ≤ 8) (hdg : decode cc g.pc = .ok (.invokevirtual index, 3)) (hf : cells + mc ≤ R.cells ∧ slots + ms ≤ R.slots) :
    va_Run p l e R s m args below meth c H locs cells slots mc ms g rest (Qc (Value.ref b :: As).toArray) free := by
  obtain ⟨⟨hrc, hrs, hfr, hlo, hws, hcw⟩, hcode, hini, hy, hlen, hl, hin, hse⟩ := cw
  have hK : Back l R p e below s args y 3 8 (PreOf R mc ms Pc) (PostOf Qc mc ms free) := va_backW (hh := hh) (bytes := bytes) (maxL := maxL) (ret := ret) hM hp.1 hrc hrs hfr hlo hws hcw (fun a' U hW => word_at hW (Or.inl (by first | rfl | simp [Cond.onTables, Cond.keeps, Cond.steady])) hini)
  obtain ⟨hx, hb, hml, ho, -⟩ := S
  obtain ⟨-, ⟨cellB, hcB, hoB, hclB⟩, hPc⟩ := hp
  intro T hT X
  obtain ⟨v, vm₁, ⟨U', l2, c2, s2⟩, hW₁, X', ⟨g', mk, t, L, e1, e2, hq, h1, hL, h2, h3⟩, st⟩ := vx_callVW X hx (C := C) (hh := hh) (bytes := bytes) (maxL := maxL) (ret := ret) ho hl hin hse hcode hy hK (by rw [hT]; exact hcB) hoB hclB hg (hsize.trans hml.symm) (argsL := As) (rest := rest) (fun sig h => hn.trans (hlen sig h)) hstack hW (by rw [hb]; exact hdg)
    (fun vm₁ hW₁ => ⟨hf.1, hf.2, hPc (T.setVm vm₁) hT hW₁⟩)
  dsimp only [Pt.U, Pt.locs, Pt.cells, Pt.slots] at X' e1 e2 h1 h2 h3 st
  subst h1; subst h2; subst h3
  exact ⟨v, (T.setVm vm₁).calling g' mk (Value.ref b :: As).toArray, t, U', L, hT, X', hL, e1, e2, hq, st⟩
section
variable {y : MethodName} {bytes cc : ByteArray} {maxL nL mc ms n index : Nat} {ret : Option FieldType} {ws : List Cond} {rm : Room} {Pc : Array Value → State → Prop} {Qc : Array Value → State → Outcome → State → Prop} {XC : String → State → State → Prop} {free : Addr → Prop} {Ts : List Cond} {own C : String} {b : Addr} {As rest : List Value} {g : JFrame}
theorem vx_runVX {hh : List (Nat × Nat × Nat × Nat)} (S : CallFix p m c cc nL s args Ts own) (hM : vx_Met l y ws rm Pc Qc XC mc ms free) (cw : vx_CVW R s args own C index y bytes maxL ret hh ws rm mc ms n) (hp : PreV s H C b Pc As)
    (hg : g.method = m) (hn : As.length = n) (hsize : g.locals.size = nL) (hstack : g.stack = As.reverse ++ .ref b :: rest) (hW : 2 * g.monitorRoom + (rest.map fun v => v.category).sum ≤ 8) (hdg : decode cc g.pc = .ok (.invokevirtual index, 3)) (hf : cells + mc ≤ R.cells ∧ slots + ms ≤ R.slots) :
    vx_Run p l e R s m args below meth c H locs cells slots mc ms g rest (Qc (Value.ref b :: As).toArray) XC free := by
  obtain ⟨⟨hrc, hrs, hfr, hlo, hws, hcw⟩, hcode, hini, hy, hlen, hl, hin, hse⟩ := cw
  have hK : vx_Back l R p e below s args y 3 8 (PreOf R mc ms Pc) (PostOf Qc mc ms free) (vx_Post XC mc ms free) := vx_backW (hh := hh) (bytes := bytes) (maxL := maxL) (ret := ret) hM hp.1 hrc hrs hfr hlo hws hcw (fun a' U hW => word_at hW (Or.inl (by first | rfl | simp [Cond.onTables, Cond.keeps, Cond.steady])) hini)
  obtain ⟨hx, hb, hml, ho, -⟩ := S
  obtain ⟨-, ⟨cellB, hcB, hoB, hclB⟩, hPc⟩ := hp
  intro T hT X
  rcases vx_callVX X hx (C := C) (hh := hh) (bytes := bytes) (maxL := maxL) (ret := ret) ho hl hin hse hcode hy hK (by rw [hT]; exact hcB) hoB hclB hg (hsize.trans hml.symm) (argsL := As) (rest := rest) (fun sig h => hn.trans (hlen sig h)) hstack hW (by rw [hb]; exact hdg)
    (fun vm₁ hW₁ => ⟨hf.1, hf.2, hPc (T.setVm vm₁) hT hW₁⟩) with ⟨v, vm₁, ⟨U', l2, c2, s2⟩, hW₁, X', ⟨g', mk, t, L, e1, e2, hq, h1, hL, h2, h3⟩, st⟩ | ⟨q, vm₁, ⟨U', l2, c2, s2⟩, hW₁, X', ⟨g', mk, t, L, E, ce, e1, e2, hq, hce, hcv, hcl, h1, hL, h2, h3⟩, st⟩
  · dsimp only [Pt.U, Pt.locs, Pt.cells, Pt.slots] at X' e1 e2 h1 h2 h3 st
    subst h1; subst h2; subst h3
    exact Or.inl ⟨v, (T.setVm vm₁).calling g' mk (Value.ref b :: As).toArray, t, U', L, hT, X', hL, e1, e2, hq, st⟩
  · dsimp only [Pt.U, Pt.locs, Pt.cells, Pt.slots] at X' e1 e2 h1 h2 h3 st hcl
    subst h1; subst h2; subst h3
    exact Or.inr ⟨q, (T.setVm vm₁).calling g' mk (Value.ref b :: As).toArray, t, U', L, E, ce, hT, X', hL, e1, e2, hq, hce, hcv, vx_cls hW₁ hcl, st⟩
theorem vx_runSX {hh : List (Nat × Nat × Nat × Nat)} (S : CallFix p m c cc nL s args Ts own) (hM : vx_Met l y ws rm Pc Qc XC mc ms free) (cw : vx_CSW R s args own index y bytes maxL ret hh ws rm mc ms n) (hp : PreS s H Pc As)
    (hg : g.method = m) (hn : As.length = n) (hsize : g.locals.size = nL) (hstack : g.stack = As.reverse ++ rest) (hW : 2 * g.monitorRoom + (rest.map fun v => v.category).sum ≤ 8) (hdg : decode cc g.pc = .ok (.invokestatic index, 3)) (hf : cells + mc ≤ R.cells ∧ slots + ms ≤ R.slots) :
    vx_Run p l e R s m args below meth c H locs cells slots mc ms g rest (Qc As.toArray) XC free := by
  obtain ⟨⟨hrc, hrs, hfr, hlo, hws, hcw⟩, hcode, hini, hy, hlen, hl, hstt⟩ := cw
  have hK : vx_Back l R p e below s args y 3 8 (PreOf R mc ms Pc) (PostOf Qc mc ms free) (vx_Post XC mc ms free) := vx_backW (hh := hh) (bytes := bytes) (maxL := maxL) (ret := ret) hM hp.1 hrc hrs hfr hlo hws hcw (fun a' U hW => word_at hW (Or.inl (by first | rfl | simp [Cond.onTables, Cond.keeps, Cond.steady])) hini)
  obtain ⟨hx, hb, hml, ho, -⟩ := S
  intro T hT X
  rcases vx_callSX X hx (hh := hh) (bytes := bytes) (maxL := maxL) (ret := ret) ho hl hstt hini hcode hy hK hg (hsize.trans hml.symm) (argsL := As) (rest := rest) (fun sig h => hn.trans (hlen sig h)) hstack hW (by rw [hb]; exact hdg)
    (fun vm₁ hW₁ => ⟨hf.1, hf.2, hp.2 (T.setVm vm₁) hT hW₁⟩) with ⟨v, vm₁, ⟨U', l2, c2, s2⟩, hW₁, X', ⟨g', mk, t, L, e1, e2, hq, h1, hL, h2, h3⟩, st⟩ | ⟨q, vm₁, ⟨U', l2, c2, s2⟩, hW₁, X', ⟨g', mk, t, L, E, ce, e1, e2, hq, hce, hcv, hcl, h1, hL, h2, h3⟩, st⟩
  · dsimp only [Pt.U, Pt.locs, Pt.cells, Pt.slots] at X' e1 e2 h1 h2 h3 st
    subst h1; subst h2; subst h3
    exact Or.inl ⟨v, (T.setVm vm₁).calling g' mk As.toArray, t, U', L, hT, X', hL, e1, e2, hq, st⟩
  · dsimp only [Pt.U, Pt.locs, Pt.cells, Pt.slots] at X' e1 e2 h1 h2 h3 st hcl
    subst h1; subst h2; subst h3
    exact Or.inr ⟨q, (T.setVm vm₁).calling g' mk As.toArray, t, U', L, E, ce, hT, X', hL, e1, e2, hq, hce, hcv, vx_cls hW₁ hcl, st⟩
end
end VXH
theorem vx_ofWH {l : Launch} {y : MethodName} {ws ws' : List Cond} {rm : Room} {Pc : Array Value → State → Prop} {Qc : Array Value → State → Outcome → State → Prop} {XC : String → State → State → Prop} {mc ms : Nat} {free : Addr → Prop} {cc : ByteArray} {maxL : Nat} {ret : Option FieldType} {hh : List (Nat × Nat × Nat × Nat)}
    (hy : plainName y.cls = true) (hw : ws = Cond.codeWith y cc maxL ret hh :: ws')
    (body : ∀ p e s m args below meth c s₁, BodyLoose p l y (headSpec ws rm) cc maxL ret e s m args below meth c s₁ → c.maxLocals = maxL → Pc args s →
      W p l e (headSpec ws rm).room s m args below meth c s.heap [] 0 0 (vx_MQ below Qc XC args s mc ms free) (entryFrame m args maxL)) : vx_Met l y ws rm Pc Qc XC mc ms free := by
  refine MetFree.of_bodyS (code := cc) (maxLocals := maxL) (ret := ret) hy ?_ ?_
  · intro args s m h hn
    obtain ⟨m9, meth, c, hn9, h1, h2, h3, h4, -, h5, h6, -⟩ := Cond.codeWith_spec (atoms_spec (ws := ws) h _ (by rw [hw]; exact List.mem_cons_self))
    cases hn.symm.trans hn9
    exact ⟨meth, c, h1, h2, h3, h4, h5, h6⟩
  · intro p e s m args below meth c s₁ B hml hP _
    have hh0 : s₁.heap = s.heap := by rw [B.state]; rfl
    obtain ⟨t, a1, o, b1, b2, b3⟩ := body p e s m args below meth c s₁ B hml hP s₁ hh0 (Stand.of_body B)
    exact ⟨t, o, a1, b1, b2, b3⟩
/-! ===== END ===== -/
end
section
def RX0 : String := "PolarPlanimeter$Arm"
def TX0 : u_T := fun k => match k with
  | 0 => ("PolarPlanimeter$Arm", "anchorX", "J", false)
  | 1 => ("PolarPlanimeter$Arm", "anchorY", "J", false)
  | 2 => ("PolarPlanimeter$Arm", "pole", "J", false)
  | 3 => ("PolarPlanimeter$Arm", "tracer", "J", false)
  | 4 => ("PolarPlanimeter$Arm", "otherSide", "Z", false)
  | 5 => ("PolarPlanimeter$Arm", "tracerX", "J", false)
  | 6 => ("PolarPlanimeter$Arm", "tracerY", "J", false)
  | 7 => ("PolarPlanimeter$Arm", "elbowX", "J", false)
  | _ => ("PolarPlanimeter$Arm", "elbowY", "J", false)
def tyX0 : Nat → FieldType := fun k => match k with
  | 0 => .long
  | 1 => .long
  | 2 => .long
  | 3 => .long
  | 4 => .boolean
  | 5 => .long
  | 6 => .long
  | 7 => .long
  | _ => .long
abbrev wsX00 : List Cond := u_ws RX0 TX0 9
theorem nmX0 : ∀ a, a < 9 → ∀ b, b < 9 → a ≠ b → (TX0 a).2.1 ≠ (TX0 b).2.1 := by decide +kernel
theorem tyX0_ok : ∀ k, k < 9 → parseFieldDescriptor (TX0 k).2.2.1 = some (tyX0 k) := by decide +kernel
abbrev cX0_init : ByteArray := prog_2_method_1_code
def yX0_init : MethodName := ⟨RX0, "<init>", "()V"⟩
abbrev cX0_fit : ByteArray := prog_2_method_2_code
def yX0_fit : MethodName := ⟨RX0, "fit", "(LPolarPlanimeter$State;)V"⟩
abbrev cX0_squareTo : ByteArray := prog_2_method_3_code
def yX0_squareTo : MethodName := ⟨RX0, "squareTo", "(JJ)J"⟩
abbrev cX0_spans : ByteArray := prog_2_method_4_code
def yX0_spans : MethodName := ⟨RX0, "spans", "(J)Z"⟩
abbrev cX0_place : ByteArray := prog_2_method_5_code
def yX0_place : MethodName := ⟨RX0, "place", "(JJ)Z"⟩
abbrev cX0_sweepTo : ByteArray := prog_2_method_6_code
def yX0_sweepTo : MethodName := ⟨RX0, "sweepTo", "(JJ)J"⟩
def RX1 : String := "PolarPlanimeter$Follower"
def TX1 : u_T := fun k => match k with
  | 0 => ("PolarPlanimeter$Follower", "arm", "LPolarPlanimeter$Arm;", true)
  | 1 => ("PolarPlanimeter$Follower", "wheel", "LPolarPlanimeter$Wheel;", true)
  | 2 => ("PolarPlanimeter$Follower", "leastSquare", "J", false)
  | _ => ("PolarPlanimeter$Follower", "greatestSquare", "J", false)
def tyX1 : Nat → FieldType := fun k => match k with
  | 0 => .object "PolarPlanimeter$Arm"
  | 1 => .object "PolarPlanimeter$Wheel"
  | 2 => .long
  | _ => .long
abbrev wsX10 : List Cond := u_ws RX1 TX1 4
theorem nmX1 : ∀ a, a < 4 → ∀ b, b < 4 → a ≠ b → (TX1 a).2.1 ≠ (TX1 b).2.1 := by decide +kernel
theorem tyX1_ok : ∀ k, k < 4 → parseFieldDescriptor (TX1 k).2.2.1 = some (tyX1 k) := by decide +kernel
abbrev cX1_init : ByteArray := prog_3_method_1_code
def yX1_init : MethodName := ⟨RX1, "<init>", "()V"⟩
abbrev cX1_measureAll : ByteArray := prog_3_method_2_code
def yX1_measureAll : MethodName := ⟨RX1, "measureAll", "(LPolarPlanimeter$State;)V"⟩
abbrev cX1_measureOne : ByteArray := prog_3_method_3_code
def yX1_measureOne : MethodName := ⟨RX1, "measureOne", "(LPolarPlanimeter$State;I)V"⟩
abbrev cX1_beginMeasuring : ByteArray := prog_3_method_4_code
def yX1_beginMeasuring : MethodName := ⟨RX1, "beginMeasuring", "(LPolarPlanimeter$State;)V"⟩
abbrev cX1_measure : ByteArray := prog_3_method_5_code
def yX1_measure : MethodName := ⟨RX1, "measure", "(LPolarPlanimeter$State;I)V"⟩
abbrev cX1_reachesMeasured : ByteArray := prog_3_method_6_code
def yX1_reachesMeasured : MethodName := ⟨RX1, "reachesMeasured", "()Z"⟩
abbrev cX1_reachesMeasuredWith : ByteArray := prog_3_method_7_code
def yX1_reachesMeasuredWith : MethodName := ⟨RX1, "reachesMeasuredWith", "(I)Z"⟩
abbrev cX1_roll : ByteArray := prog_3_method_8_code
def yX1_roll : MethodName := ⟨RX1, "roll", "(LPolarPlanimeter$State;I)J"⟩
abbrev cX1_sum : ByteArray := prog_3_method_9_code
def yX1_sum : MethodName := ⟨RX1, "sum", "(LPolarPlanimeter$State;IZ)J"⟩
abbrev cX1_follow : ByteArray := prog_3_method_10_code
def yX1_follow : MethodName := ⟨RX1, "follow", "(LPolarPlanimeter$Outline;IIZ)V"⟩
def RX2 : String := "PolarPlanimeter$History"
def TX2 : u_T := fun k => match k with
  | 0 => ("PolarPlanimeter$History", "saved", "I", false)
  | _ => ("PolarPlanimeter$History", "states", "[LPolarPlanimeter$State;", true)
def tyX2 : Nat → FieldType := fun k => match k with
  | 0 => .int
  | _ => .array (.object "PolarPlanimeter$State")
abbrev wsX20 : List Cond := u_ws RX2 TX2 2
theorem nmX2 : ∀ a, a < 2 → ∀ b, b < 2 → a ≠ b → (TX2 a).2.1 ≠ (TX2 b).2.1 := by decide +kernel
theorem tyX2_ok : ∀ k, k < 2 → parseFieldDescriptor (TX2 k).2.2.1 = some (tyX2 k) := by decide +kernel
abbrev cX2_init : ByteArray := prog_4_method_1_code
def yX2_init : MethodName := ⟨RX2, "<init>", "()V"⟩
abbrev cX2_save : ByteArray := prog_4_method_2_code
def yX2_save : MethodName := ⟨RX2, "save", "(LPolarPlanimeter$State;)V"⟩
abbrev cX2_dropOldest : ByteArray := prog_4_method_3_code
def yX2_dropOldest : MethodName := ⟨RX2, "dropOldest", "()V"⟩
abbrev cX2_restore : ByteArray := prog_4_method_4_code
def yX2_restore : MethodName := ⟨RX2, "restore", "(LPolarPlanimeter$State;)V"⟩
def RX3 : String := "PolarPlanimeter$Mean"
def TX3 : u_T := fun k => match k with
  | 0 => ("PolarPlanimeter$Mean", "areas", "[J", true)
  | 1 => ("PolarPlanimeter$Mean", "ascending", "[J", true)
  | 2 => ("PolarPlanimeter$Mean", "leftOut", "[Z", true)
  | 3 => ("PolarPlanimeter$Mean", "runs", "I", false)
  | 4 => ("PolarPlanimeter$Mean", "kept", "I", false)
  | _ => ("PolarPlanimeter$Mean", "value", "J", false)
def tyX3 : Nat → FieldType := fun k => match k with
  | 0 => .array .long
  | 1 => .array .long
  | 2 => .array .boolean
  | 3 => .int
  | 4 => .int
  | _ => .long
abbrev wsX30 : List Cond := u_ws RX3 TX3 6
theorem nmX3 : ∀ a, a < 6 → ∀ b, b < 6 → a ≠ b → (TX3 a).2.1 ≠ (TX3 b).2.1 := by decide +kernel
theorem tyX3_ok : ∀ k, k < 6 → parseFieldDescriptor (TX3 k).2.2.1 = some (tyX3 k) := by decide +kernel
abbrev cX3_init : ByteArray := prog_5_method_1_code
def yX3_init : MethodName := ⟨RX3, "<init>", "()V"⟩
abbrev cX3_take : ByteArray := prog_5_method_2_code
def yX3_take : MethodName := ⟨RX3, "take", "(LPolarPlanimeter$State;)V"⟩
abbrev cX3_leaveOut : ByteArray := prog_5_method_3_code
def yX3_leaveOut : MethodName := ⟨RX3, "leaveOut", "(I)V"⟩
abbrev cX3_middleOfKept : ByteArray := prog_5_method_4_code
def yX3_middleOfKept : MethodName := ⟨RX3, "middleOfKept", "()J"⟩
abbrev cX3_sortIn : ByteArray := prog_5_method_5_code
def yX3_sortIn : MethodName := ⟨RX3, "sortIn", "(JI)V"⟩
abbrev cX3_farthestFrom : ByteArray := prog_5_method_6_code
def yX3_farthestFrom : MethodName := ⟨RX3, "farthestFrom", "(J)I"⟩
abbrev cX3_sumOfKept : ByteArray := prog_5_method_7_code
def yX3_sumOfKept : MethodName := ⟨RX3, "sumOfKept", "()J"⟩
def RX4 : String := "PolarPlanimeter$Outline"
def TX4 : u_T := fun k => match k with
  | 0 => ("PolarPlanimeter$Outline", "corners", "I", false)
  | 1 => ("PolarPlanimeter$Outline", "xs", "[I", true)
  | 2 => ("PolarPlanimeter$Outline", "ys", "[I", true)
  | _ => ("PolarPlanimeter$Outline", "slips", "[I", true)
def tyX4 : Nat → FieldType := fun k => match k with
  | 0 => .int
  | 1 => .array .int
  | 2 => .array .int
  | _ => .array .int
abbrev wsX40 : List Cond := u_ws RX4 TX4 4
theorem nmX4 : ∀ a, a < 4 → ∀ b, b < 4 → a ≠ b → (TX4 a).2.1 ≠ (TX4 b).2.1 := by decide +kernel
theorem tyX4_ok : ∀ k, k < 4 → parseFieldDescriptor (TX4 k).2.2.1 = some (tyX4 k) := by decide +kernel
abbrev cX4_init : ByteArray := prog_6_method_1_code
def yX4_init : MethodName := ⟨RX4, "<init>", "()V"⟩
abbrev cX4_copy : ByteArray := prog_6_method_2_code
def yX4_copy : MethodName := ⟨RX4, "copy", "(LPolarPlanimeter$Outline;)V"⟩
abbrev cX4_open : ByteArray := prog_6_method_3_code
def yX4_open : MethodName := ⟨RX4, "open", "(III)V"⟩
abbrev cX4_close : ByteArray := prog_6_method_4_code
def yX4_close : MethodName := ⟨RX4, "close", "(I)V"⟩
abbrev cX4_put : ByteArray := prog_6_method_5_code
def yX4_put : MethodName := ⟨RX4, "put", "(IIII)V"⟩
abbrev cX4_next : ByteArray := prog_6_method_6_code
def yX4_next : MethodName := ⟨RX4, "next", "(I)I"⟩
abbrev cX4_previous : ByteArray := prog_6_method_7_code
def yX4_previous : MethodName := ⟨RX4, "previous", "(I)I"⟩
abbrev cX4_steps : ByteArray := prog_6_method_8_code
def yX4_steps : MethodName := ⟨RX4, "steps", "(II)I"⟩
abbrev cX4_allSteps : ByteArray := prog_6_method_9_code
def yX4_allSteps : MethodName := ⟨RX4, "allSteps", "(I)J"⟩
abbrev cX4_twiceArea : ByteArray := prog_6_method_10_code
def yX4_twiceArea : MethodName := ⟨RX4, "twiceArea", "()J"⟩
abbrev cX4_area : ByteArray := prog_6_method_11_code
def yX4_area : MethodName := ⟨RX4, "area", "()J"⟩
abbrev cX4_windingAround : ByteArray := prog_6_method_12_code
def yX4_windingAround : MethodName := ⟨RX4, "windingAround", "(II)J"⟩
abbrev cX4_crossing : ByteArray := prog_6_method_13_code
def yX4_crossing : MethodName := ⟨RX4, "crossing", "(III)I"⟩
abbrev cX4_sideOf : ByteArray := prog_6_method_14_code
def yX4_sideOf : MethodName := ⟨RX4, "sideOf", "(III)J"⟩
abbrev cX4_touches : ByteArray := prog_6_method_15_code
def yX4_touches : MethodName := ⟨RX4, "touches", "(II)Z"⟩
abbrev cX4_fineX : ByteArray := prog_6_method_16_code
def yX4_fineX : MethodName := ⟨RX4, "fineX", "(III)J"⟩
abbrev cX4_fineY : ByteArray := prog_6_method_17_code
def yX4_fineY : MethodName := ⟨RX4, "fineY", "(III)J"⟩
abbrev cX4_finePart : ByteArray := prog_6_method_18_code
def yX4_finePart : MethodName := ⟨RX4, "finePart", "(IIII)J"⟩
def RX5 : String := "PolarPlanimeter$Runs"
def TX5 : u_T := fun k => match k with
  | 0 => ("PolarPlanimeter$Runs", "made", "I", false)
  | 1 => ("PolarPlanimeter$Runs", "corners", "[I", true)
  | 2 => ("PolarPlanimeter$Runs", "backward", "[Z", true)
  | _ => ("PolarPlanimeter$Runs", "sums", "[J", true)
def tyX5 : Nat → FieldType := fun k => match k with
  | 0 => .int
  | 1 => .array .int
  | 2 => .array .boolean
  | _ => .array .long
abbrev wsX50 : List Cond := u_ws RX5 TX5 4
theorem nmX5 : ∀ a, a < 4 → ∀ b, b < 4 → a ≠ b → (TX5 a).2.1 ≠ (TX5 b).2.1 := by decide +kernel
theorem tyX5_ok : ∀ k, k < 4 → parseFieldDescriptor (TX5 k).2.2.1 = some (tyX5 k) := by decide +kernel
abbrev cX5_init : ByteArray := prog_7_method_1_code
def yX5_init : MethodName := ⟨RX5, "<init>", "()V"⟩
abbrev cX5_copy : ByteArray := prog_7_method_2_code
def yX5_copy : MethodName := ⟨RX5, "copy", "(LPolarPlanimeter$Runs;)V"⟩
abbrev cX5_clear : ByteArray := prog_7_method_3_code
def yX5_clear : MethodName := ⟨RX5, "clear", "()I"⟩
abbrev cX5_add : ByteArray := prog_7_method_4_code
def yX5_add : MethodName := ⟨RX5, "add", "(IZJ)V"⟩
abbrev cX5_area : ByteArray := prog_7_method_5_code
def yX5_area : MethodName := ⟨RX5, "area", "(IJ)J"⟩
def RX6 : String := "PolarPlanimeter$State"
def TX6 : u_T := fun k => match k with
  | 0 => ("PolarPlanimeter$State", "anchorX", "I", false)
  | 1 => ("PolarPlanimeter$State", "anchorY", "I", false)
  | 2 => ("PolarPlanimeter$State", "tolerance", "I", false)
  | 3 => ("PolarPlanimeter$State", "settings", "[I", true)
  | 4 => ("PolarPlanimeter$State", "outline", "LPolarPlanimeter$Outline;", true)
  | _ => ("PolarPlanimeter$State", "runs", "LPolarPlanimeter$Runs;", true)
def tyX6 : Nat → FieldType := fun k => match k with
  | 0 => .int
  | 1 => .int
  | 2 => .int
  | 3 => .array .int
  | 4 => .object "PolarPlanimeter$Outline"
  | _ => .object "PolarPlanimeter$Runs"
abbrev wsX60 : List Cond := u_ws RX6 TX6 6
theorem nmX6 : ∀ a, a < 6 → ∀ b, b < 6 → a ≠ b → (TX6 a).2.1 ≠ (TX6 b).2.1 := by decide +kernel
theorem tyX6_ok : ∀ k, k < 6 → parseFieldDescriptor (TX6 k).2.2.1 = some (tyX6 k) := by decide +kernel
abbrev cX6_init : ByteArray := prog_8_method_1_code
def yX6_init : MethodName := ⟨RX6, "<init>", "()V"⟩
abbrev cX6_copy : ByteArray := prog_8_method_2_code
def yX6_copy : MethodName := ⟨RX6, "copy", "(LPolarPlanimeter$State;)V"⟩
abbrev cX6_winding : ByteArray := prog_8_method_3_code
def yX6_winding : MethodName := ⟨RX6, "winding", "()J"⟩
abbrev cX6_constant : ByteArray := prog_8_method_4_code
def yX6_constant : MethodName := ⟨RX6, "constant", "()J"⟩
def RX7 : String := "PolarPlanimeter$TextReader"
def TX7 : u_T := fun k => match k with
  | 0 => ("PolarPlanimeter$TextReader", "xs", "[I", true)
  | 1 => ("PolarPlanimeter$TextReader", "ys", "[I", true)
  | 2 => ("PolarPlanimeter$TextReader", "latest", "I", false)
  | 3 => ("PolarPlanimeter$TextReader", "place", "I", false)
  | 4 => ("PolarPlanimeter$TextReader", "atY", "Z", false)
  | 5 => ("PolarPlanimeter$TextReader", "negative", "Z", false)
  | _ => ("PolarPlanimeter$TextReader", "size", "I", false)
def tyX7 : Nat → FieldType := fun k => match k with
  | 0 => .array .int
  | 1 => .array .int
  | 2 => .int
  | 3 => .int
  | 4 => .boolean
  | 5 => .boolean
  | _ => .int
abbrev wsX70 : List Cond := u_ws RX7 TX7 7
theorem nmX7 : ∀ a, a < 7 → ∀ b, b < 7 → a ≠ b → (TX7 a).2.1 ≠ (TX7 b).2.1 := by decide +kernel
theorem tyX7_ok : ∀ k, k < 7 → parseFieldDescriptor (TX7 k).2.2.1 = some (tyX7 k) := by decide +kernel
abbrev cX7_init : ByteArray := prog_9_method_1_code
def yX7_init : MethodName := ⟨RX7, "<init>", "()V"⟩
abbrev cX7_read : ByteArray := prog_9_method_2_code
def yX7_read : MethodName := ⟨RX7, "read", "([II)I"⟩
abbrev cX7_isComplete : ByteArray := prog_9_method_3_code
def yX7_isComplete : MethodName := ⟨RX7, "isComplete", "()Z"⟩
abbrev cX7_putInto : ByteArray := prog_9_method_4_code
def yX7_putInto : MethodName := ⟨RX7, "putInto", "(LPolarPlanimeter$Outline;)V"⟩
abbrev cX7_beginNumber : ByteArray := prog_9_method_5_code
def yX7_beginNumber : MethodName := ⟨RX7, "beginNumber", "()V"⟩
abbrev cX7_accept : ByteArray := prog_9_method_6_code
def yX7_accept : MethodName := ⟨RX7, "accept", "(I)Z"⟩
abbrev cX7_acceptMinus : ByteArray := prog_9_method_7_code
def yX7_acceptMinus : MethodName := ⟨RX7, "acceptMinus", "()Z"⟩
abbrev cX7_acceptComma : ByteArray := prog_9_method_8_code
def yX7_acceptComma : MethodName := ⟨RX7, "acceptComma", "()Z"⟩
abbrev cX7_acceptSemicolon : ByteArray := prog_9_method_9_code
def yX7_acceptSemicolon : MethodName := ⟨RX7, "acceptSemicolon", "()Z"⟩
abbrev cX7_acceptDigit : ByteArray := prog_9_method_10_code
def yX7_acceptDigit : MethodName := ⟨RX7, "acceptDigit", "(I)Z"⟩
abbrev cX7_keepNumber : ByteArray := prog_9_method_11_code
def yX7_keepNumber : MethodName := ⟨RX7, "keepNumber", "(I)V"⟩
def RX8 : String := "PolarPlanimeter$Wheel"
def TX8 : u_T := fun k => match k with
  | 0 => ("PolarPlanimeter$Wheel", "play", "J", false)
  | 1 => ("PolarPlanimeter$Wheel", "slack", "J", false)
  | _ => ("PolarPlanimeter$Wheel", "counted", "J", false)
def tyX8 : Nat → FieldType := fun k => match k with
  | 0 => .long
  | 1 => .long
  | _ => .long
abbrev wsX80 : List Cond := u_ws RX8 TX8 3
theorem nmX8 : ∀ a, a < 3 → ∀ b, b < 3 → a ≠ b → (TX8 a).2.1 ≠ (TX8 b).2.1 := by decide +kernel
theorem tyX8_ok : ∀ k, k < 3 → parseFieldDescriptor (TX8 k).2.2.1 = some (tyX8 k) := by decide +kernel
abbrev cX8_init : ByteArray := prog_10_method_1_code
def yX8_init : MethodName := ⟨RX8, "<init>", "()V"⟩
abbrev cX8_start : ByteArray := prog_10_method_2_code
def yX8_start : MethodName := ⟨RX8, "start", "(I)V"⟩
abbrev cX8_turn : ByteArray := prog_10_method_3_code
def yX8_turn : MethodName := ⟨RX8, "turn", "(JI)V"⟩
def RX9 : String := "PolarPlanimeter"
def TX9 : u_T := fun k => match k with
  | 0 => ("PolarPlanimeter", "now", "LPolarPlanimeter$State;", true)
  | 1 => ("PolarPlanimeter", "trial", "LPolarPlanimeter$State;", true)
  | 2 => ("PolarPlanimeter", "history", "LPolarPlanimeter$History;", true)
  | 3 => ("PolarPlanimeter", "follower", "LPolarPlanimeter$Follower;", true)
  | 4 => ("PolarPlanimeter", "mean", "LPolarPlanimeter$Mean;", true)
  | 5 => ("PolarPlanimeter", "reader", "LPolarPlanimeter$TextReader;", true)
  | 6 => ("PolarPlanimeter", "buffer", "[I", true)
  | 7 => ("PolarPlanimeter", "bufferLength", "I", false)
  | _ => ("PolarPlanimeter", "latestReason", "I", false)
def tyX9 : Nat → FieldType := fun k => match k with
  | 0 => .object "PolarPlanimeter$State"
  | 1 => .object "PolarPlanimeter$State"
  | 2 => .object "PolarPlanimeter$History"
  | 3 => .object "PolarPlanimeter$Follower"
  | 4 => .object "PolarPlanimeter$Mean"
  | 5 => .object "PolarPlanimeter$TextReader"
  | 6 => .array .int
  | 7 => .int
  | _ => .int
abbrev wsX90 : List Cond := u_ws RX9 TX9 9
theorem nmX9 : ∀ a, a < 9 → ∀ b, b < 9 → a ≠ b → (TX9 a).2.1 ≠ (TX9 b).2.1 := by decide +kernel
theorem tyX9_ok : ∀ k, k < 9 → parseFieldDescriptor (TX9 k).2.2.1 = some (tyX9 k) := by decide +kernel
abbrev cX9_init : ByteArray := prog_1_method_1_code
def yX9_init : MethodName := ⟨RX9, "<init>", "()V"⟩
abbrev cX9_setAnchor : ByteArray := prog_1_method_2_code
def yX9_setAnchor : MethodName := ⟨RX9, "setAnchor", "(II)I"⟩
abbrev cX9_set : ByteArray := prog_1_method_3_code
def yX9_set : MethodName := ⟨RX9, "set", "(II)I"⟩
abbrev cX9_setTolerance : ByteArray := prog_1_method_4_code
def yX9_setTolerance : MethodName := ⟨RX9, "setTolerance", "(I)I"⟩
abbrev cX9_insert : ByteArray := prog_1_method_5_code
def yX9_insert : MethodName := ⟨RX9, "insert", "(III)I"⟩
abbrev cX9_move : ByteArray := prog_1_method_6_code
def yX9_move : MethodName := ⟨RX9, "move", "(III)I"⟩
abbrev cX9_remove : ByteArray := prog_1_method_7_code
def yX9_remove : MethodName := ⟨RX9, "remove", "(I)I"⟩
abbrev cX9_setSlip : ByteArray := prog_1_method_8_code
def yX9_setSlip : MethodName := ⟨RX9, "setSlip", "(II)I"⟩
abbrev cX9_run : ByteArray := prog_1_method_9_code
def yX9_run : MethodName := ⟨RX9, "run", "(IZ)I"⟩
abbrev cX9_runAll : ByteArray := prog_1_method_10_code
def yX9_runAll : MethodName := ⟨RX9, "runAll", "()I"⟩
abbrev cX9_forget : ByteArray := prog_1_method_11_code
def yX9_forget : MethodName := ⟨RX9, "forget", "()I"⟩
abbrev cX9_append : ByteArray := prog_1_method_12_code
def yX9_append : MethodName := ⟨RX9, "append", "(I)I"⟩
abbrev cX9_clearBuffer : ByteArray := prog_1_method_13_code
def yX9_clearBuffer : MethodName := ⟨RX9, "clearBuffer", "()I"⟩
abbrev cX9_firstError : ByteArray := prog_1_method_14_code
def yX9_firstError : MethodName := ⟨RX9, "firstError", "()I"⟩
abbrev cX9_load : ByteArray := prog_1_method_15_code
def yX9_load : MethodName := ⟨RX9, "load", "()I"⟩
abbrev cX9_undo : ByteArray := prog_1_method_16_code
def yX9_undo : MethodName := ⟨RX9, "undo", "()I"⟩
abbrev cX9_reason : ByteArray := prog_1_method_17_code
def yX9_reason : MethodName := ⟨RX9, "reason", "()I"⟩
abbrev cX9_corner : ByteArray := prog_1_method_18_code
def yX9_corner : MethodName := ⟨RX9, "corner", "(II)J"⟩
abbrev cX9_made : ByteArray := prog_1_method_19_code
def yX9_made : MethodName := ⟨RX9, "made", "(II)J"⟩
abbrev cX9_elbow : ByteArray := prog_1_method_20_code
def yX9_elbow : MethodName := ⟨RX9, "elbow", "(III)J"⟩
abbrev cX9_count : ByteArray := prog_1_method_21_code
def yX9_count : MethodName := ⟨RX9, "count", "(I)J"⟩
abbrev cX9_setting : ByteArray := prog_1_method_22_code
def yX9_setting : MethodName := ⟨RX9, "setting", "(I)I"⟩
abbrev cX9_why : ByteArray := prog_1_method_23_code
def yX9_why : MethodName := ⟨RX9, "why", "(IZ)I"⟩
abbrev cX9_ifSet : ByteArray := prog_1_method_24_code
def yX9_ifSet : MethodName := ⟨RX9, "ifSet", "(IZII)J"⟩
abbrev cX9_leastArm : ByteArray := prog_1_method_25_code
def yX9_leastArm : MethodName := ⟨RX9, "leastArm", "()I"⟩
abbrev cX9_error : ByteArray := prog_1_method_26_code
def yX9_error : MethodName := ⟨RX9, "error", "()D"⟩
abbrev cX9_digest : ByteArray := prog_1_method_27_code
def yX9_digest : MethodName := ⟨RX9, "digest", "()J"⟩
abbrev cX9_isWithin : ByteArray := prog_1_method_28_code
def yX9_isWithin : MethodName := ⟨RX9, "isWithin", "(II)Z"⟩
abbrev cX9_checkSetting : ByteArray := prog_1_method_29_code
def yX9_checkSetting : MethodName := ⟨RX9, "checkSetting", "(I)V"⟩
abbrev cX9_checkValue : ByteArray := prog_1_method_30_code
def yX9_checkValue : MethodName := ⟨RX9, "checkValue", "(II)V"⟩
abbrev cX9_checkPoint : ByteArray := prog_1_method_31_code
def yX9_checkPoint : MethodName := ⟨RX9, "checkPoint", "(II)V"⟩
abbrev cX9_checkWhat : ByteArray := prog_1_method_32_code
def yX9_checkWhat : MethodName := ⟨RX9, "checkWhat", "(II)V"⟩
abbrev cX9_checkCorner : ByteArray := prog_1_method_33_code
def yX9_checkCorner : MethodName := ⟨RX9, "checkCorner", "(I)V"⟩
abbrev cX9_refusal : ByteArray := prog_1_method_34_code
def yX9_refusal : MethodName := ⟨RX9, "refusal", "(LPolarPlanimeter$State;)I"⟩
abbrev cX9_cornerProperty : ByteArray := prog_1_method_35_code
def yX9_cornerProperty : MethodName := ⟨RX9, "cornerProperty", "(II)J"⟩
abbrev cX9_isSegmentInReach : ByteArray := prog_1_method_36_code
def yX9_isSegmentInReach : MethodName := ⟨RX9, "isSegmentInReach", "(I)Z"⟩
abbrev cX9_runProperty : ByteArray := prog_1_method_37_code
def yX9_runProperty : MethodName := ⟨RX9, "runProperty", "(II)J"⟩
abbrev cX9_number : ByteArray := prog_1_method_38_code
def yX9_number : MethodName := ⟨RX9, "number", "(I)J"⟩
abbrev cX9_meanMinusArea : ByteArray := prog_1_method_39_code
def yX9_meanMinusArea : MethodName := ⟨RX9, "meanMinusArea", "()J"⟩
abbrev cX9_hashed : ByteArray := prog_1_method_40_code
def yX9_hashed : MethodName := ⟨RX9, "hashed", "(JJ)J"⟩
abbrev cX9_errorBits : ByteArray := prog_1_method_41_code
def yX9_errorBits : MethodName := ⟨RX9, "errorBits", "()J"⟩
abbrev cX9_bitsOfSize : ByteArray := prog_1_method_42_code
def yX9_bitsOfSize : MethodName := ⟨RX9, "bitsOfSize", "(D)J"⟩
abbrev cX9_quotient : ByteArray := prog_1_method_43_code
def yX9_quotient : MethodName := ⟨RX9, "quotient", "(JJ)J"⟩
abbrev cX9_root : ByteArray := prog_1_method_44_code
def yX9_root : MethodName := ⟨RX9, "root", "(J)J"⟩
abbrev cX9_cross : ByteArray := prog_1_method_45_code
def yX9_cross : MethodName := ⟨RX9, "cross", "(JJJJJJ)J"⟩
abbrev cX9_isBetween : ByteArray := prog_1_method_46_code
def yX9_isBetween : MethodName := ⟨RX9, "isBetween", "(III)Z"⟩
def RX10 : String := "PolarPlanimeterModel"
def TX10 : u_T := fun k => match k with
  | 0 => ("PolarPlanimeterModel", "thrown", "I", false)
  | 1 => ("PolarPlanimeterModel", "z", "[J", true)
  | 2 => ("PolarPlanimeterModel", "saves", "I", false)
  | 3 => ("PolarPlanimeterModel", "saved", "[J", true)
  | 4 => ("PolarPlanimeterModel", "latest", "I", false)
  | 5 => ("PolarPlanimeterModel", "length", "I", false)
  | 6 => ("PolarPlanimeterModel", "text", "[I", true)
  | 7 => ("PolarPlanimeterModel", "elbowX", "J", false)
  | 8 => ("PolarPlanimeterModel", "elbowY", "J", false)
  | 9 => ("PolarPlanimeterModel", "played", "J", false)
  | 10 => ("PolarPlanimeterModel", "wheel", "J", false)
  | 11 => ("PolarPlanimeterModel", "isOut", "[Z", true)
  | 12 => ("PolarPlanimeterModel", "step", "I", false)
  | 13 => ("PolarPlanimeterModel", "isBelow", "Z", false)
  | 14 => ("PolarPlanimeterModel", "number", "I", false)
  | 15 => ("PolarPlanimeterModel", "numbers", "I", false)
  | 16 => ("PolarPlanimeterModel", "read", "[I", true)
  | _ => ("PolarPlanimeterModel", "h", "J", false)
def tyX10 : Nat → FieldType := fun k => match k with
  | 0 => .int
  | 1 => .array .long
  | 2 => .int
  | 3 => .array .long
  | 4 => .int
  | 5 => .int
  | 6 => .array .int
  | 7 => .long
  | 8 => .long
  | 9 => .long
  | 10 => .long
  | 11 => .array .boolean
  | 12 => .int
  | 13 => .boolean
  | 14 => .int
  | 15 => .int
  | 16 => .array .int
  | _ => .long
abbrev wsX100 : List Cond := u_ws RX10 TX10 18
theorem nmX10 : ∀ a, a < 18 → ∀ b, b < 18 → a ≠ b → (TX10 a).2.1 ≠ (TX10 b).2.1 := by decide +kernel
theorem tyX10_ok : ∀ k, k < 18 → parseFieldDescriptor (TX10 k).2.2.1 = some (tyX10 k) := by decide +kernel
abbrev cX10_init : ByteArray := prog_12_method_1_code
def yX10_init : MethodName := ⟨RX10, "<init>", "()V"⟩
abbrev cX10_thrown : ByteArray := prog_12_method_2_code
def yX10_thrown : MethodName := ⟨RX10, "thrown", "()I"⟩
abbrev cX10_within : ByteArray := prog_12_method_3_code
def yX10_within : MethodName := ⟨RX10, "within", "(JJJ)Z"⟩
abbrev cX10_of : ByteArray := prog_12_method_4_code
def yX10_of : MethodName := ⟨RX10, "of", "(I)J"⟩
abbrev cX10_corners : ByteArray := prog_12_method_5_code
def yX10_corners : MethodName := ⟨RX10, "corners", "()I"⟩
abbrev cX10_isCorner : ByteArray := prog_12_method_6_code
def yX10_isCorner : MethodName := ⟨RX10, "isCorner", "(I)Z"⟩
abbrev cX10_x : ByteArray := prog_12_method_7_code
def yX10_x : MethodName := ⟨RX10, "x", "(I)J"⟩
abbrev cX10_y : ByteArray := prog_12_method_8_code
def yX10_y : MethodName := ⟨RX10, "y", "(I)J"⟩
abbrev cX10_slip : ByteArray := prog_12_method_9_code
def yX10_slip : MethodName := ⟨RX10, "slip", "(I)J"⟩
abbrev cX10_size : ByteArray := prog_12_method_10_code
def yX10_size : MethodName := ⟨RX10, "size", "(J)J"⟩
abbrev cX10_root : ByteArray := prog_12_method_11_code
def yX10_root : MethodName := ⟨RX10, "root", "(J)J"⟩
abbrev cX10_reaches : ByteArray := prog_12_method_12_code
def yX10_reaches : MethodName := ⟨RX10, "reaches", "(JJ)Z"⟩
abbrev cX10_layElbow : ByteArray := prog_12_method_13_code
def yX10_layElbow : MethodName := ⟨RX10, "layElbow", "(JJ)V"⟩
abbrev cX10_steps : ByteArray := prog_12_method_14_code
def yX10_steps : MethodName := ⟨RX10, "steps", "(I)I"⟩
abbrev cX10_pointX : ByteArray := prog_12_method_15_code
def yX10_pointX : MethodName := ⟨RX10, "pointX", "(II)J"⟩
abbrev cX10_pointY : ByteArray := prog_12_method_16_code
def yX10_pointY : MethodName := ⟨RX10, "pointY", "(II)J"⟩
abbrev cX10_isReached : ByteArray := prog_12_method_17_code
def yX10_isReached : MethodName := ⟨RX10, "isReached", "(I)Z"⟩
abbrev cX10_allReached : ByteArray := prog_12_method_18_code
def yX10_allReached : MethodName := ⟨RX10, "allReached", "()Z"⟩
abbrev cX10_turn : ByteArray := prog_12_method_19_code
def yX10_turn : MethodName := ⟨RX10, "turn", "(JJJJJJ)J"⟩
abbrev cX10_swept : ByteArray := prog_12_method_20_code
def yX10_swept : MethodName := ⟨RX10, "swept", "(JJJJ)J"⟩
abbrev cX10_sweptIn : ByteArray := prog_12_method_21_code
def yX10_sweptIn : MethodName := ⟨RX10, "sweptIn", "(III)J"⟩
abbrev cX10_roll : ByteArray := prog_12_method_22_code
def yX10_roll : MethodName := ⟨RX10, "roll", "(I)J"⟩
abbrev cX10_rollOn : ByteArray := prog_12_method_23_code
def yX10_rollOn : MethodName := ⟨RX10, "rollOn", "(IJ)V"⟩
abbrev cX10_follow : ByteArray := prog_12_method_24_code
def yX10_follow : MethodName := ⟨RX10, "follow", "(IZ)V"⟩
abbrev cX10_sumOf : ByteArray := prog_12_method_25_code
def yX10_sumOf : MethodName := ⟨RX10, "sumOf", "(IZ)J"⟩
abbrev cX10_isOn : ByteArray := prog_12_method_26_code
def yX10_isOn : MethodName := ⟨RX10, "isOn", "(I)Z"⟩
abbrev cX10_isOnOutline : ByteArray := prog_12_method_27_code
def yX10_isOnOutline : MethodName := ⟨RX10, "isOnOutline", "()Z"⟩
abbrev cX10_winding : ByteArray := prog_12_method_28_code
def yX10_winding : MethodName := ⟨RX10, "winding", "()J"⟩
abbrev cX10_constant : ByteArray := prog_12_method_29_code
def yX10_constant : MethodName := ⟨RX10, "constant", "()J"⟩
abbrev cX10_twiceArea : ByteArray := prog_12_method_30_code
def yX10_twiceArea : MethodName := ⟨RX10, "twiceArea", "()J"⟩
abbrev cX10_shut : ByteArray := prog_12_method_31_code
def yX10_shut : MethodName := ⟨RX10, "shut", "()I"⟩
abbrev cX10_refusal : ByteArray := prog_12_method_32_code
def yX10_refusal : MethodName := ⟨RX10, "refusal", "()I"⟩
abbrev cX10_areaOf : ByteArray := prog_12_method_33_code
def yX10_areaOf : MethodName := ⟨RX10, "areaOf", "(I)J"⟩
abbrev cX10_left : ByteArray := prog_12_method_34_code
def yX10_left : MethodName := ⟨RX10, "left", "()I"⟩
abbrev cX10_middle : ByteArray := prog_12_method_35_code
def yX10_middle : MethodName := ⟨RX10, "middle", "()J"⟩
abbrev cX10_layMean : ByteArray := prog_12_method_36_code
def yX10_layMean : MethodName := ⟨RX10, "layMean", "()V"⟩
abbrev cX10_mean : ByteArray := prog_12_method_37_code
def yX10_mean : MethodName := ⟨RX10, "mean", "()J"⟩
abbrev cX10_save : ByteArray := prog_12_method_38_code
def yX10_save : MethodName := ⟨RX10, "save", "()V"⟩
abbrev cX10_undo : ByteArray := prog_12_method_39_code
def yX10_undo : MethodName := ⟨RX10, "undo", "()I"⟩
abbrev cX10_dropRuns : ByteArray := prog_12_method_40_code
def yX10_dropRuns : MethodName := ⟨RX10, "dropRuns", "()I"⟩
abbrev cX10_setAnchor : ByteArray := prog_12_method_41_code
def yX10_setAnchor : MethodName := ⟨RX10, "setAnchor", "(II)I"⟩
abbrev cX10_isSetting : ByteArray := prog_12_method_42_code
def yX10_isSetting : MethodName := ⟨RX10, "isSetting", "(I)Z"⟩
abbrev cX10_isValue : ByteArray := prog_12_method_43_code
def yX10_isValue : MethodName := ⟨RX10, "isValue", "(II)Z"⟩
abbrev cX10_replaced : ByteArray := prog_12_method_44_code
def yX10_replaced : MethodName := ⟨RX10, "replaced", "(II)I"⟩
abbrev cX10_set : ByteArray := prog_12_method_45_code
def yX10_set : MethodName := ⟨RX10, "set", "(II)I"⟩
abbrev cX10_setTolerance : ByteArray := prog_12_method_46_code
def yX10_setTolerance : MethodName := ⟨RX10, "setTolerance", "(I)I"⟩
abbrev cX10_isPoint : ByteArray := prog_12_method_47_code
def yX10_isPoint : MethodName := ⟨RX10, "isPoint", "(II)Z"⟩
abbrev cX10_putCorner : ByteArray := prog_12_method_48_code
def yX10_putCorner : MethodName := ⟨RX10, "putCorner", "(IIII)V"⟩
abbrev cX10_insert : ByteArray := prog_12_method_49_code
def yX10_insert : MethodName := ⟨RX10, "insert", "(III)I"⟩
abbrev cX10_move : ByteArray := prog_12_method_50_code
def yX10_move : MethodName := ⟨RX10, "move", "(III)I"⟩
abbrev cX10_remove : ByteArray := prog_12_method_51_code
def yX10_remove : MethodName := ⟨RX10, "remove", "(I)I"⟩
abbrev cX10_setSlip : ByteArray := prog_12_method_52_code
def yX10_setSlip : MethodName := ⟨RX10, "setSlip", "(II)I"⟩
abbrev cX10_make : ByteArray := prog_12_method_53_code
def yX10_make : MethodName := ⟨RX10, "make", "(IZ)V"⟩
abbrev cX10_run : ByteArray := prog_12_method_54_code
def yX10_run : MethodName := ⟨RX10, "run", "(IZ)I"⟩
abbrev cX10_runAll : ByteArray := prog_12_method_55_code
def yX10_runAll : MethodName := ⟨RX10, "runAll", "()I"⟩
abbrev cX10_forget : ByteArray := prog_12_method_56_code
def yX10_forget : MethodName := ⟨RX10, "forget", "()I"⟩
abbrev cX10_append : ByteArray := prog_12_method_57_code
def yX10_append : MethodName := ⟨RX10, "append", "(I)I"⟩
abbrev cX10_clearBuffer : ByteArray := prog_12_method_58_code
def yX10_clearBuffer : MethodName := ⟨RX10, "clearBuffer", "()I"⟩
abbrev cX10_begins : ByteArray := prog_12_method_59_code
def yX10_begins : MethodName := ⟨RX10, "begins", "(I)Z"⟩
abbrev cX10_endNumber : ByteArray := prog_12_method_60_code
def yX10_endNumber : MethodName := ⟨RX10, "endNumber", "()V"⟩
abbrev cX10_goesOn : ByteArray := prog_12_method_61_code
def yX10_goesOn : MethodName := ⟨RX10, "goesOn", "(I)Z"⟩
abbrev cX10_readText : ByteArray := prog_12_method_62_code
def yX10_readText : MethodName := ⟨RX10, "readText", "()I"⟩
abbrev cX10_firstError : ByteArray := prog_12_method_63_code
def yX10_firstError : MethodName := ⟨RX10, "firstError", "()I"⟩
abbrev cX10_load : ByteArray := prog_12_method_64_code
def yX10_load : MethodName := ⟨RX10, "load", "()I"⟩
abbrev cX10_reason : ByteArray := prog_12_method_65_code
def yX10_reason : MethodName := ⟨RX10, "reason", "()I"⟩
abbrev cX10_cornerNow : ByteArray := prog_12_method_66_code
def yX10_cornerNow : MethodName := ⟨RX10, "cornerNow", "(II)J"⟩
abbrev cX10_corner : ByteArray := prog_12_method_67_code
def yX10_corner : MethodName := ⟨RX10, "corner", "(II)J"⟩
abbrev cX10_madeNow : ByteArray := prog_12_method_68_code
def yX10_madeNow : MethodName := ⟨RX10, "madeNow", "(II)J"⟩
abbrev cX10_made : ByteArray := prog_12_method_69_code
def yX10_made : MethodName := ⟨RX10, "made", "(II)J"⟩
abbrev cX10_elbowNow : ByteArray := prog_12_method_70_code
def yX10_elbowNow : MethodName := ⟨RX10, "elbowNow", "(JJI)J"⟩
abbrev cX10_elbow : ByteArray := prog_12_method_71_code
def yX10_elbow : MethodName := ⟨RX10, "elbow", "(III)J"⟩
abbrev cX10_difference : ByteArray := prog_12_method_72_code
def yX10_difference : MethodName := ⟨RX10, "difference", "()J"⟩
abbrev cX10_outs : ByteArray := prog_12_method_73_code
def yX10_outs : MethodName := ⟨RX10, "outs", "()J"⟩
abbrev cX10_allSteps : ByteArray := prog_12_method_74_code
def yX10_allSteps : MethodName := ⟨RX10, "allSteps", "()J"⟩
abbrev cX10_counted : ByteArray := prog_12_method_75_code
def yX10_counted : MethodName := ⟨RX10, "counted", "(I)J"⟩
abbrev cX10_count : ByteArray := prog_12_method_76_code
def yX10_count : MethodName := ⟨RX10, "count", "(I)J"⟩
abbrev cX10_setting : ByteArray := prog_12_method_77_code
def yX10_setting : MethodName := ⟨RX10, "setting", "(I)I"⟩
abbrev cX10_why : ByteArray := prog_12_method_78_code
def yX10_why : MethodName := ⟨RX10, "why", "(IZ)I"⟩
abbrev cX10_sumWith : ByteArray := prog_12_method_79_code
def yX10_sumWith : MethodName := ⟨RX10, "sumWith", "(IZII)J"⟩
abbrev cX10_ifSet : ByteArray := prog_12_method_80_code
def yX10_ifSet : MethodName := ⟨RX10, "ifSet", "(IZII)J"⟩
abbrev cX10_leastNow : ByteArray := prog_12_method_81_code
def yX10_leastNow : MethodName := ⟨RX10, "leastNow", "()I"⟩
abbrev cX10_leastArm : ByteArray := prog_12_method_82_code
def yX10_leastArm : MethodName := ⟨RX10, "leastArm", "()I"⟩
abbrev cX10_errorNow : ByteArray := prog_12_method_83_code
def yX10_errorNow : MethodName := ⟨RX10, "errorNow", "()D"⟩
abbrev cX10_error : ByteArray := prog_12_method_84_code
def yX10_error : MethodName := ⟨RX10, "error", "()D"⟩
abbrev cX10_mix : ByteArray := prog_12_method_85_code
def yX10_mix : MethodName := ⟨RX10, "mix", "(J)V"⟩
abbrev cX10_digest : ByteArray := prog_12_method_86_code
def yX10_digest : MethodName := ⟨RX10, "digest", "()J"⟩
def RJxe99ae : String := "java/lang/Double"
def TJxe99ae : u_T := fun k => match k with
  | _ => ("", "", "", false)
def tyJxe99ae : Nat → FieldType := fun k => match k with
  | _ => .int
abbrev wsJxe99ae0 : List Cond := u_ws RJxe99ae TJxe99ae 0
theorem nmJxe99ae : ∀ a, a < 0 → ∀ b, b < 0 → a ≠ b → (TJxe99ae a).2.1 ≠ (TJxe99ae b).2.1 := by decide +kernel
theorem tyJxe99ae_ok : ∀ k, k < 0 → parseFieldDescriptor (TJxe99ae k).2.2.1 = some (tyJxe99ae k) := by decide +kernel
abbrev cJxe99ae_isNaN_b9ae7 : ByteArray := prog_13_method_6_code
def yJxe99ae_isNaN_b9ae7 : MethodName := ⟨RJxe99ae, "isNaN", "(D)Z"⟩
abbrev cJxe99ae_doubleToLongBits_ccdee : ByteArray := prog_13_method_23_code
def yJxe99ae_doubleToLongBits_ccdee : MethodName := ⟨RJxe99ae, "doubleToLongBits", "(D)J"⟩
def RJ6 : String := "java/lang/Integer"
def TJ6 : u_T := fun k => match k with
  | _ => ("", "", "", false)
def tyJ6 : Nat → FieldType := fun k => match k with
  | _ => .int
abbrev wsJ60 : List Cond := u_ws RJ6 TJ6 0
theorem nmJ6 : ∀ a, a < 0 → ∀ b, b < 0 → a ≠ b → (TJ6 a).2.1 ≠ (TJ6 b).2.1 := by decide +kernel
theorem tyJ6_ok : ∀ k, k < 0 → parseFieldDescriptor (TJ6 k).2.2.1 = some (tyJ6 k) := by decide +kernel
abbrev cJ6_numberOfLeadingZeros_0f7a4 : ByteArray := prog_18_method_47_code
def yJ6_numberOfLeadingZeros_0f7a4 : MethodName := ⟨RJ6, "numberOfLeadingZeros", "(I)I"⟩
def RJ13 : String := "java/lang/Long"
def TJ13 : u_T := fun k => match k with
  | _ => ("", "", "", false)
def tyJ13 : Nat → FieldType := fun k => match k with
  | _ => .int
abbrev wsJ130 : List Cond := u_ws RJ13 TJ13 0
theorem nmJ13 : ∀ a, a < 0 → ∀ b, b < 0 → a ≠ b → (TJ13 a).2.1 ≠ (TJ13 b).2.1 := by decide +kernel
theorem tyJ13_ok : ∀ k, k < 0 → parseFieldDescriptor (TJ13 k).2.2.1 = some (tyJ13 k) := by decide +kernel
abbrev cJ13_numberOfLeadingZeros_95d88 : ByteArray := prog_19_method_48_code
def yJ13_numberOfLeadingZeros_95d88 : MethodName := ⟨RJ13, "numberOfLeadingZeros", "(J)I"⟩
def RJ9 : String := "java/lang/Math"
def TJ9 : u_T := fun k => match k with
  | _ => ("", "", "", false)
def tyJ9 : Nat → FieldType := fun k => match k with
  | _ => .int
abbrev wsJ90 : List Cond := u_ws RJ9 TJ9 0
theorem nmJ9 : ∀ a, a < 0 → ∀ b, b < 0 → a ≠ b → (TJ9 a).2.1 ≠ (TJ9 b).2.1 := by decide +kernel
theorem tyJ9_ok : ∀ k, k < 0 → parseFieldDescriptor (TJ9 k).2.2.1 = some (tyJ9 k) := by decide +kernel
abbrev cJ9_abs_0f7a4 : ByteArray := prog_20_method_59_code
def yJ9_abs_0f7a4 : MethodName := ⟨RJ9, "abs", "(I)I"⟩
abbrev cJ9_abs_067f4 : ByteArray := prog_20_method_61_code
def yJ9_abs_067f4 : MethodName := ⟨RJ9, "abs", "(J)J"⟩
abbrev cJ9_max_7cf53 : ByteArray := prog_20_method_65_code
def yJ9_max_7cf53 : MethodName := ⟨RJ9, "max", "(II)I"⟩
abbrev cJ9_max_f86c9 : ByteArray := prog_20_method_66_code
def yJ9_max_f86c9 : MethodName := ⟨RJ9, "max", "(JJ)J"⟩
abbrev cJ9_min_7cf53 : ByteArray := prog_20_method_69_code
def yJ9_min_7cf53 : MethodName := ⟨RJ9, "min", "(II)I"⟩
abbrev cJ9_min_f86c9 : ByteArray := prog_20_method_70_code
def yJ9_min_f86c9 : MethodName := ⟨RJ9, "min", "(JJ)J"⟩
def RJ0 : String := "java/lang/String"
def TJ0 : u_T := fun k => match k with
  | _ => ("", "", "", false)
def tyJ0 : Nat → FieldType := fun k => match k with
  | _ => .int
abbrev wsJ00 : List Cond := u_ws RJ0 TJ0 0
theorem nmJ0 : ∀ a, a < 0 → ∀ b, b < 0 → a ≠ b → (TJ0 a).2.1 ≠ (TJ0 b).2.1 := by decide +kernel
theorem tyJ0_ok : ∀ k, k < 0 → parseFieldDescriptor (TJ0 k).2.2.1 = some (tyJ0 k) := by decide +kernel
def RJ10 : String := "java/lang/System"
def TJ10 : u_T := fun k => match k with
  | _ => ("", "", "", false)
def tyJ10 : Nat → FieldType := fun k => match k with
  | _ => .int
abbrev wsJ100 : List Cond := u_ws RJ10 TJ10 0
theorem nmJ10 : ∀ a, a < 0 → ∀ b, b < 0 → a ≠ b → (TJ10 a).2.1 ≠ (TJ10 b).2.1 := by decide +kernel
theorem tyJ10_ok : ∀ k, k < 0 → parseFieldDescriptor (TJ10 k).2.2.1 = some (tyJ10 k) := by decide +kernel
def RL : String := "PolarPlanimeterLaw"
abbrev cL_setAnchor : ByteArray := method_3_code
def yL_setAnchor : MethodName := ⟨RL, "setAnchor", "(LPolarPlanimeter;II[J)I"⟩
abbrev cL_set : ByteArray := method_4_code
def yL_set : MethodName := ⟨RL, "set", "(LPolarPlanimeter;II[J)I"⟩
abbrev cL_setTolerance : ByteArray := method_5_code
def yL_setTolerance : MethodName := ⟨RL, "setTolerance", "(LPolarPlanimeter;I[J)I"⟩
abbrev cL_insert : ByteArray := method_6_code
def yL_insert : MethodName := ⟨RL, "insert", "(LPolarPlanimeter;III[J)I"⟩
abbrev cL_move : ByteArray := method_7_code
def yL_move : MethodName := ⟨RL, "move", "(LPolarPlanimeter;III[J)I"⟩
abbrev cL_remove : ByteArray := method_8_code
def yL_remove : MethodName := ⟨RL, "remove", "(LPolarPlanimeter;I[J)I"⟩
abbrev cL_setSlip : ByteArray := method_9_code
def yL_setSlip : MethodName := ⟨RL, "setSlip", "(LPolarPlanimeter;II[J)I"⟩
abbrev cL_run : ByteArray := method_10_code
def yL_run : MethodName := ⟨RL, "run", "(LPolarPlanimeter;IZ[J)I"⟩
abbrev cL_append : ByteArray := method_11_code
def yL_append : MethodName := ⟨RL, "append", "(LPolarPlanimeter;I[J)I"⟩
abbrev cL_load : ByteArray := method_12_code
def yL_load : MethodName := ⟨RL, "load", "(LPolarPlanimeter;[J)I"⟩
abbrev cL_undo : ByteArray := method_13_code
def yL_undo : MethodName := ⟨RL, "undo", "(LPolarPlanimeter;[J)I"⟩
abbrev cL_corner : ByteArray := method_14_code
def yL_corner : MethodName := ⟨RL, "corner", "(LPolarPlanimeter;II[J)I"⟩
abbrev cL_made : ByteArray := method_15_code
def yL_made : MethodName := ⟨RL, "made", "(LPolarPlanimeter;II[J)I"⟩
abbrev cL_elbow : ByteArray := method_16_code
def yL_elbow : MethodName := ⟨RL, "elbow", "(LPolarPlanimeter;III[J)I"⟩
abbrev cL_count : ByteArray := method_17_code
def yL_count : MethodName := ⟨RL, "count", "(LPolarPlanimeter;I[J)I"⟩
abbrev cL_setting : ByteArray := method_18_code
def yL_setting : MethodName := ⟨RL, "setting", "(LPolarPlanimeter;I[J)I"⟩
abbrev cL_why : ByteArray := method_19_code
def yL_why : MethodName := ⟨RL, "why", "(LPolarPlanimeter;IZ[J)I"⟩
abbrev cL_ifSet : ByteArray := method_20_code
def yL_ifSet : MethodName := ⟨RL, "ifSet", "(LPolarPlanimeter;IZII[J)I"⟩
abbrev cL_law : ByteArray := code
def yL_law : MethodName := ⟨RL, "law", "([I)Z"⟩
def wsJ6_numberOfLeadingZeros_0f7a4 : List Cond := .code yJ6_numberOfLeadingZeros_0f7a4 cJ6_numberOfLeadingZeros_0f7a4 2 (some .int) :: ([.constant RJ6 264 (65536)])
def wsJ13_numberOfLeadingZeros_95d88 : List Cond := .code yJ13_numberOfLeadingZeros_95d88 cJ13_numberOfLeadingZeros_95d88 3 (some .int) :: ([.methodLink RJ13 308 yJ6_numberOfLeadingZeros_0f7a4, .static yJ6_numberOfLeadingZeros_0f7a4, .initialized RJ6, .code yJ6_numberOfLeadingZeros_0f7a4 cJ6_numberOfLeadingZeros_0f7a4 2 (some .int), .constant RJ6 264 (65536)])
def wsJxe99ae_isNaN_b9ae7 : List Cond := .code yJxe99ae_isNaN_b9ae7 cJxe99ae_isNaN_b9ae7 2 (some .boolean) :: ([])
def wsJxe99ae_doubleToLongBits_ccdee : List Cond := .code yJxe99ae_doubleToLongBits_ccdee cJxe99ae_doubleToLongBits_ccdee 2 (some .long) :: ([.methodLink RJxe99ae 134 ⟨"java/lang/Double", "doubleToRawLongBits", "(D)J"⟩, .native ⟨"java/lang/Double", "doubleToRawLongBits", "(D)J"⟩, .static ⟨"java/lang/Double", "doubleToRawLongBits", "(D)J"⟩, .initialized "java/lang/Double", .constantLong RJxe99ae 137 (9221120237041090560), .methodLink RJxe99ae 122 yJxe99ae_isNaN_b9ae7, .static yJxe99ae_isNaN_b9ae7, .initialized RJxe99ae, .code yJxe99ae_isNaN_b9ae7 cJxe99ae_isNaN_b9ae7 2 (some .boolean)])
def wsJ9_abs_0f7a4 : List Cond := .code yJ9_abs_0f7a4 cJ9_abs_0f7a4 1 (some .int) :: ([])
def wsJ9_abs_067f4 : List Cond := .code yJ9_abs_067f4 cJ9_abs_067f4 2 (some .long) :: ([])
def wsJ9_max_7cf53 : List Cond := .code yJ9_max_7cf53 cJ9_max_7cf53 2 (some .int) :: ([])
def wsJ9_max_f86c9 : List Cond := .code yJ9_max_f86c9 cJ9_max_f86c9 4 (some .long) :: ([])
def wsJ9_min_7cf53 : List Cond := .code yJ9_min_7cf53 cJ9_min_7cf53 2 (some .int) :: ([])
def wsJ9_min_f86c9 : List Cond := .code yJ9_min_f86c9 cJ9_min_f86c9 4 (some .long) :: ([])
def wsL_law0_r1 : List Cond := [Cond.classLink RL 8 RX9, Cond.instantiable RX9 9, Cond.initialized RX9, Cond.classLink RL 79 RX10, Cond.instantiable RX10 18, Cond.initialized RX10, Cond.arrayClass .long, Cond.methodLink RL 78 yX9_init, Cond.instanceMethod yX9_init, Cond.code yX9_init cX9_init 1 none, Cond.methodLink RX9 1 objectInit, Cond.instanceMethod objectInit, Cond.code objectInit ⟨#[0xb1]⟩ 1 none, Cond.classLink RX9 7 RX6, Cond.instantiable RX6 6, Cond.initialized RX6, Cond.fieldLink RX9 10 "PolarPlanimeter" "now" "LPolarPlanimeter$State;", Cond.fieldLink RX9 16 "PolarPlanimeter" "trial" "LPolarPlanimeter$State;", Cond.classLink RX9 19 RX2, Cond.instantiable RX2 2, Cond.initialized RX2, Cond.fieldLink RX9 22 "PolarPlanimeter" "history" "LPolarPlanimeter$History;", Cond.classLink RX9 26 RX1, Cond.instantiable RX1 4]
def wsL_law0_r2 : List Cond := [Cond.initialized RX1, Cond.fieldLink RX9 29 "PolarPlanimeter" "follower" "LPolarPlanimeter$Follower;", Cond.classLink RX9 33 RX3, Cond.instantiable RX3 6, Cond.initialized RX3, Cond.fieldLink RX9 36 "PolarPlanimeter" "mean" "LPolarPlanimeter$Mean;", Cond.classLink RX9 40 RX7, Cond.instantiable RX7 7, Cond.initialized RX7, Cond.fieldLink RX9 43 "PolarPlanimeter" "reader" "LPolarPlanimeter$TextReader;", Cond.arrayClass .int, Cond.fieldLink RX9 47 "PolarPlanimeter" "buffer" "[I", Cond.instanceMethod yX6_init, Cond.code yX6_init cX6_init 1 none, Cond.methodLink RX6 3 objectInit, Cond.fieldLink RX6 9 "PolarPlanimeter$State" "tolerance" "I", Cond.fieldLink RX6 15 "PolarPlanimeter$State" "settings" "[I", Cond.classLink RX6 19 RX4, Cond.instantiable RX4 4, Cond.initialized RX4, Cond.fieldLink RX6 22 "PolarPlanimeter$State" "outline" "LPolarPlanimeter$Outline;", Cond.classLink RX6 26 RX5, Cond.instantiable RX5 4, Cond.initialized RX5]
def wsL_law0_r3 : List Cond := [Cond.fieldLink RX6 29 "PolarPlanimeter$State" "runs" "LPolarPlanimeter$Runs;", Cond.methodLink RX6 36 arraycopyName, Cond.native arraycopyName, Cond.static arraycopyName, Cond.initialized "java/lang/System", Cond.instanceMethod yX4_init, Cond.code yX4_init cX4_init 1 none, Cond.methodLink RX4 3 objectInit, Cond.fieldLink RX4 9 "PolarPlanimeter$Outline" "xs" "[I", Cond.fieldLink RX4 15 "PolarPlanimeter$Outline" "ys" "[I", Cond.fieldLink RX4 18 "PolarPlanimeter$Outline" "slips" "[I", Cond.instanceMethod yX5_init, Cond.code yX5_init cX5_init 1 none, Cond.methodLink RX5 3 objectInit, Cond.fieldLink RX5 9 "PolarPlanimeter$Runs" "corners" "[I", Cond.arrayClass .boolean, Cond.fieldLink RX5 15 "PolarPlanimeter$Runs" "backward" "[Z", Cond.fieldLink RX5 19 "PolarPlanimeter$Runs" "sums" "[J", Cond.instanceMethod yX2_init, Cond.code yX2_init cX2_init 2 none, Cond.methodLink RX2 3 objectInit, Cond.classLink RX2 9 RX6, Cond.fieldLink RX2 11 "PolarPlanimeter$History" "states" "[LPolarPlanimeter$State;", Cond.instanceMethod yX1_init]
def wsL_law0_r4 : List Cond := [Cond.code yX1_init cX1_init 1 none, Cond.methodLink RX1 3 objectInit, Cond.classLink RX1 9 RX0, Cond.instantiable RX0 9, Cond.initialized RX0, Cond.fieldLink RX1 12 "PolarPlanimeter$Follower" "arm" "LPolarPlanimeter$Arm;", Cond.classLink RX1 18 RX8, Cond.instantiable RX8 3, Cond.initialized RX8, Cond.fieldLink RX1 21 "PolarPlanimeter$Follower" "wheel" "LPolarPlanimeter$Wheel;", Cond.instanceMethod yX0_init, Cond.code yX0_init cX0_init 1 none, Cond.methodLink RX0 3 objectInit, Cond.instanceMethod yX8_init, Cond.code yX8_init cX8_init 1 none, Cond.methodLink RX8 3 objectInit, Cond.instanceMethod yX3_init, Cond.code yX3_init cX3_init 1 none, Cond.methodLink RX3 3 objectInit, Cond.fieldLink RX3 9 "PolarPlanimeter$Mean" "areas" "[J", Cond.fieldLink RX3 15 "PolarPlanimeter$Mean" "ascending" "[J", Cond.fieldLink RX3 18 "PolarPlanimeter$Mean" "leftOut" "[Z", Cond.instanceMethod yX7_init, Cond.code yX7_init cX7_init 1 none]
def wsL_law0_r5 : List Cond := [Cond.methodLink RX7 3 objectInit, Cond.fieldLink RX7 9 "PolarPlanimeter$TextReader" "xs" "[I", Cond.fieldLink RX7 15 "PolarPlanimeter$TextReader" "ys" "[I", Cond.methodLink RL 81 yX10_init, Cond.instanceMethod yX10_init, Cond.code yX10_init cX10_init 1 none, Cond.methodLink RX10 1 objectInit, Cond.fieldLink RX10 7 "PolarPlanimeterModel" "z" "[J", Cond.fieldLink RX10 13 "PolarPlanimeterModel" "saved" "[J", Cond.fieldLink RX10 16 "PolarPlanimeterModel" "text" "[I", Cond.fieldLink RX10 20 "PolarPlanimeterModel" "isOut" "[Z", Cond.fieldLink RX10 24 "PolarPlanimeterModel" "read" "[I", Cond.constantLong RX10 27 (1200), Cond.constantLong RX10 29 (1000), Cond.constantLong RX10 31 (50), Cond.constantLong RX10 33 (200), Cond.methodLink RL 82 yL_setAnchor, Cond.static yL_setAnchor, Cond.initialized RL, Cond.codeWith yL_setAnchor cL_setAnchor 5 (some .int) [(0, 10, 13, 13)], Cond.classLink RL 13 "java/lang/IllegalArgumentException", Cond.methodLink RL 7 yX9_setAnchor, Cond.instanceMethod yX9_setAnchor, Cond.selects RX9 yX9_setAnchor yX9_setAnchor]
def wsL_law0_r6 : List Cond := [Cond.code yX9_setAnchor cX9_setAnchor 3 (some .int), Cond.classLink RX9 55 "java/lang/IllegalArgumentException", Cond.initialized "java/lang/IllegalArgumentException", Cond.methodLink RX9 51 yX9_isWithin, Cond.static yX9_isWithin, Cond.code yX9_isWithin cX9_isWithin 2 (some .boolean), Cond.instanceMethod yX2_save, Cond.selects RX2 yX2_save yX2_save, Cond.code yX2_save cX2_save 2 none, Cond.fieldLink RX2 18 "PolarPlanimeter$History" "saved" "I", Cond.methodLink RX2 22 yX2_dropOldest, Cond.instanceMethod yX2_dropOldest, Cond.selects RX2 yX2_dropOldest yX2_dropOldest, Cond.code yX2_dropOldest cX2_dropOldest 3 none, Cond.instanceMethod yX6_copy, Cond.selects RX6 yX6_copy yX6_copy, Cond.code yX6_copy cX6_copy 2 none, Cond.fieldLink RX6 42 "PolarPlanimeter$State" "anchorX" "I", Cond.fieldLink RX6 45 "PolarPlanimeter$State" "anchorY" "I", Cond.instanceMethod yX4_copy, Cond.selects RX4 yX4_copy yX4_copy, Cond.code yX4_copy cX4_copy 2 none, Cond.fieldLink RX4 21 "PolarPlanimeter$Outline" "corners" "I", Cond.methodLink RX4 25 arraycopyName]
def wsL_law0_r7 : List Cond := [Cond.instanceMethod yX5_copy, Cond.selects RX5 yX5_copy yX5_copy, Cond.code yX5_copy cX5_copy 3 none, Cond.fieldLink RX5 23 "PolarPlanimeter$Runs" "made" "I", Cond.instanceMethod yX5_clear, Cond.selects RX5 yX5_clear yX5_clear, Cond.code yX5_clear cX5_clear 2 (some .int), Cond.methodLink RL 87 yX10_setAnchor, Cond.instanceMethod yX10_setAnchor, Cond.selects RX10 yX10_setAnchor yX10_setAnchor, Cond.code yX10_setAnchor cX10_setAnchor 3 (some .int), Cond.constantLong RX10 176 (-2000), Cond.constantLong RX10 178 (2000), Cond.fieldLink RX10 35 "PolarPlanimeterModel" "thrown" "I", Cond.methodLink RX10 43 yX10_within, Cond.static yX10_within, Cond.code yX10_within cX10_within 6 (some .boolean), Cond.methodLink RX10 180 yX10_save, Cond.instanceMethod yX10_save, Cond.selects RX10 yX10_save yX10_save, Cond.code yX10_save cX10_save 2 none, Cond.fieldLink RX10 173 "PolarPlanimeterModel" "saves" "I", Cond.methodLink RX10 183 yX10_dropRuns, Cond.instanceMethod yX10_dropRuns]
def wsL_law0_r8 : List Cond := [Cond.selects RX10 yX10_dropRuns yX10_dropRuns, Cond.code yX10_dropRuns cX10_dropRuns 2 (some .int), Cond.methodLink RL 88 yX10_thrown, Cond.instanceMethod yX10_thrown, Cond.selects RX10 yX10_thrown yX10_thrown, Cond.code yX10_thrown cX10_thrown 1 (some .int), Cond.methodLink RL 91 yL_set, Cond.static yL_set, Cond.codeWith yL_set cL_set 5 (some .int) [(0, 10, 13, 18), (0, 10, 17, 13)], Cond.classLink RL 18 "java/lang/IndexOutOfBoundsException", Cond.methodLink RL 15 yX9_set, Cond.instanceMethod yX9_set, Cond.selects RX9 yX9_set yX9_set, Cond.code yX9_set cX9_set 4 (some .int), Cond.methodLink RX9 83 yX9_checkSetting, Cond.static yX9_checkSetting, Cond.code yX9_checkSetting cX9_checkSetting 1 none, Cond.classLink RX9 109 "java/lang/IndexOutOfBoundsException", Cond.initialized "java/lang/IndexOutOfBoundsException", Cond.methodLink RX9 87 yX9_checkValue, Cond.static yX9_checkValue, Cond.code yX9_checkValue cX9_checkValue 2 none, Cond.fieldLink RX9 237 "PolarPlanimeter" "LEAST" "[I", Cond.fieldLink RX9 240 "PolarPlanimeter" "GREATEST" "[I"]
def wsL_law0_r9 : List Cond := [Cond.methodLink RL 93 yX10_set, Cond.instanceMethod yX10_set, Cond.selects RX10 yX10_set yX10_set, Cond.code yX10_set cX10_set 4 (some .int), Cond.methodLink RX10 194 yX10_isSetting, Cond.static yX10_isSetting, Cond.code yX10_isSetting cX10_isSetting 1 (some .boolean), Cond.constantLong RX10 186 (4), Cond.methodLink RX10 197 yX10_isValue, Cond.static yX10_isValue, Cond.code yX10_isValue cX10_isValue 2 (some .boolean), Cond.constantLong RX10 188 (3000), Cond.constantLong RX10 190 (20), Cond.constantLong RX10 192 (10000), Cond.methodLink RX10 201 yX10_replaced, Cond.instanceMethod yX10_replaced, Cond.selects RX10 yX10_replaced yX10_replaced, Cond.code yX10_replaced cX10_replaced 4 (some .int), Cond.methodLink RL 94 yL_setTolerance, Cond.static yL_setTolerance, Cond.codeWith yL_setTolerance cL_setTolerance 4 (some .int) [(0, 9, 12, 13)], Cond.methodLink RL 20 yX9_setTolerance, Cond.instanceMethod yX9_setTolerance, Cond.selects RX9 yX9_setTolerance yX9_setTolerance]
def wsL_law0_r10 : List Cond := [Cond.code yX9_setTolerance cX9_setTolerance 3 (some .int), Cond.constant RX9 94 (100000), Cond.methodLink RL 97 yX10_setTolerance, Cond.instanceMethod yX10_setTolerance, Cond.selects RX10 yX10_setTolerance yX10_setTolerance, Cond.code yX10_setTolerance cX10_setTolerance 2 (some .int), Cond.constantLong RX10 205 (100000), Cond.methodLink RL 98 yL_insert, Cond.static yL_insert, Cond.codeWith yL_insert cL_insert 6 (some .int) [(0, 12, 15, 18), (0, 12, 19, 13), (0, 12, 23, 28)], Cond.classLink RL 28 "java/lang/IllegalStateException", Cond.methodLink RL 24 yX9_insert, Cond.instanceMethod yX9_insert, Cond.selects RX9 yX9_insert yX9_insert, Cond.code yX9_insert cX9_insert 4 (some .int), Cond.classLink RX9 117 "java/lang/IllegalStateException", Cond.initialized "java/lang/IllegalStateException", Cond.methodLink RX9 114 yX9_checkPoint, Cond.static yX9_checkPoint, Cond.code yX9_checkPoint cX9_checkPoint 2 none, Cond.instanceMethod yX4_open, Cond.selects RX4 yX4_open yX4_open, Cond.code yX4_open cX4_open 5 none, Cond.methodLink RX4 31 yX4_put]
def wsL_law0_r11 : List Cond := [Cond.instanceMethod yX4_put, Cond.selects RX4 yX4_put yX4_put, Cond.code yX4_put cX4_put 5 none, Cond.methodLink RL 101 yX10_insert, Cond.instanceMethod yX10_insert, Cond.selects RX10 yX10_insert yX10_insert, Cond.code yX10_insert cX10_insert 5 (some .int), Cond.methodLink RX10 39 yX10_corners, Cond.instanceMethod yX10_corners, Cond.selects RX10 yX10_corners yX10_corners, Cond.code yX10_corners cX10_corners 1 (some .int), Cond.methodLink RX10 209 yX10_isPoint, Cond.static yX10_isPoint, Cond.code yX10_isPoint cX10_isPoint 2 (some .boolean), Cond.constantLong RX10 207 (-1000), Cond.methodLink RX10 212 yX10_putCorner, Cond.instanceMethod yX10_putCorner, Cond.selects RX10 yX10_putCorner yX10_putCorner, Cond.code yX10_putCorner cX10_putCorner 5 none, Cond.methodLink RL 102 yL_move, Cond.static yL_move, Cond.codeWith yL_move cL_move 6 (some .int) [(0, 12, 15, 18), (0, 12, 19, 13)], Cond.methodLink RL 30 yX9_move, Cond.instanceMethod yX9_move]
def wsL_law0_r12 : List Cond := [Cond.selects RX9 yX9_move yX9_move, Cond.code yX9_move cX9_move 4 (some .int), Cond.methodLink RX9 126 yX9_checkCorner, Cond.instanceMethod yX9_checkCorner, Cond.selects RX9 yX9_checkCorner yX9_checkCorner, Cond.code yX9_checkCorner cX9_checkCorner 2 none, Cond.methodLink RL 104 yX10_move, Cond.instanceMethod yX10_move, Cond.selects RX10 yX10_move yX10_move, Cond.code yX10_move cX10_move 4 (some .int), Cond.methodLink RX10 216 yX10_isCorner, Cond.instanceMethod yX10_isCorner, Cond.selects RX10 yX10_isCorner yX10_isCorner, Cond.code yX10_isCorner cX10_isCorner 2 (some .boolean), Cond.methodLink RL 105 yL_remove, Cond.static yL_remove, Cond.codeWith yL_remove cL_remove 4 (some .int) [(0, 9, 12, 18)], Cond.methodLink RL 33 yX9_remove, Cond.instanceMethod yX9_remove, Cond.selects RX9 yX9_remove yX9_remove, Cond.code yX9_remove cX9_remove 2 (some .int), Cond.instanceMethod yX4_close, Cond.selects RX4 yX4_close yX4_close, Cond.code yX4_close cX4_close 3 none]
def wsL_law0_r13 : List Cond := [Cond.methodLink RL 107 yX10_remove, Cond.instanceMethod yX10_remove, Cond.selects RX10 yX10_remove yX10_remove, Cond.code yX10_remove cX10_remove 3 (some .int), Cond.methodLink RL 108 yL_setSlip, Cond.static yL_setSlip, Cond.codeWith yL_setSlip cL_setSlip 5 (some .int) [(0, 10, 13, 18), (0, 10, 17, 13)], Cond.methodLink RL 36 yX9_setSlip, Cond.instanceMethod yX9_setSlip, Cond.selects RX9 yX9_setSlip yX9_setSlip, Cond.code yX9_setSlip cX9_setSlip 4 (some .int), Cond.methodLink RL 110 yX10_setSlip, Cond.instanceMethod yX10_setSlip, Cond.selects RX10 yX10_setSlip yX10_setSlip, Cond.code yX10_setSlip cX10_setSlip 3 (some .int), Cond.constantLong RX10 117 (100), Cond.methodLink RL 111 yL_run, Cond.static yL_run, Cond.codeWith yL_run cL_run 5 (some .int) [(0, 10, 13, 18), (0, 10, 17, 28)], Cond.methodLink RL 39 yX9_run, Cond.instanceMethod yX9_run, Cond.selects RX9 yX9_run yX9_run, Cond.code yX9_run cX9_run 3 (some .int), Cond.fieldLink RX9 147 "PolarPlanimeter" "latestReason" "I"]
def wsL_law0_r14 : List Cond := [Cond.methodLink RX9 143 yX9_refusal, Cond.instanceMethod yX9_refusal, Cond.selects RX9 yX9_refusal yX9_refusal, Cond.code yX9_refusal cX9_refusal 2 (some .int), Cond.instanceMethod yX4_touches, Cond.selects RX4 yX4_touches yX4_touches, Cond.code yX4_touches cX4_touches 5 (some .boolean), Cond.methodLink RX4 35 yX4_next, Cond.instanceMethod yX4_next, Cond.selects RX4 yX4_next yX4_next, Cond.code yX4_next cX4_next 2 (some .int), Cond.methodLink RX4 67 yX4_sideOf, Cond.instanceMethod yX4_sideOf, Cond.selects RX4 yX4_sideOf yX4_sideOf, Cond.code yX4_sideOf cX4_sideOf 5 (some .long), Cond.static yX9_cross, Cond.code yX9_cross cX9_cross 12 (some .long), Cond.static yX9_isBetween, Cond.code yX9_isBetween cX9_isBetween 3 (some .boolean), Cond.methodLink RX9 367 Lib.Math.min.name, Cond.static Lib.Math.min.name, Cond.initialized "java/lang/Math", Cond.code Lib.Math.min.name Lib.Math.min.code 2 (some .int), Cond.methodLink RX9 372 Lib.Math.max.name]
def wsL_law0_r15 : List Cond := [Cond.static Lib.Math.max.name, Cond.code Lib.Math.max.name Lib.Math.max.code 2 (some .int), Cond.instanceMethod yX1_measureAll, Cond.selects RX1 yX1_measureAll yX1_measureAll, Cond.code yX1_measureAll cX1_measureAll 3 none, Cond.methodLink RX1 25 yX1_beginMeasuring, Cond.instanceMethod yX1_beginMeasuring, Cond.selects RX1 yX1_beginMeasuring yX1_beginMeasuring, Cond.code yX1_beginMeasuring cX1_beginMeasuring 2 none, Cond.constantLong RX1 48 (4611686018427387904), Cond.fieldLink RX1 50 "PolarPlanimeter$Follower" "leastSquare" "J", Cond.fieldLink RX1 54 "PolarPlanimeter$Follower" "greatestSquare" "J", Cond.instanceMethod yX0_fit, Cond.selects RX0 yX0_fit yX0_fit, Cond.code yX0_fit cX0_fit 2 none, Cond.constantLong RX0 9 (16), Cond.fieldLink RX0 17 "PolarPlanimeter$Arm" "anchorX" "J", Cond.fieldLink RX0 25 "PolarPlanimeter$Arm" "anchorY" "J", Cond.fieldLink RX0 31 "PolarPlanimeter$Arm" "pole" "J", Cond.fieldLink RX0 34 "PolarPlanimeter$Arm" "tracer" "J", Cond.fieldLink RX0 37 "PolarPlanimeter$Arm" "otherSide" "Z", Cond.methodLink RX1 41 yX1_measure, Cond.instanceMethod yX1_measure, Cond.selects RX1 yX1_measure yX1_measure]
def wsL_law0_r16 : List Cond := [Cond.code yX1_measure cX1_measure 8 none, Cond.methodLink RX1 76 Lib.MathLoose.min_long.x, Cond.static Lib.MathLoose.min_long.x, Cond.code Lib.MathLoose.min_long.x Lib.MathLoose.min_long.code 4 (some .long), Cond.methodLink RX1 81 Lib.MathLoose.max_long.x, Cond.static Lib.MathLoose.max_long.x, Cond.code Lib.MathLoose.max_long.x Lib.MathLoose.max_long.code 4 (some .long), Cond.instanceMethod yX4_steps, Cond.selects RX4 yX4_steps yX4_steps, Cond.code yX4_steps cX4_steps 5 (some .int), Cond.methodLink RX4 39 Lib.Math.abs.name, Cond.static Lib.Math.abs.name, Cond.code Lib.Math.abs.name Lib.Math.abs.code 1 (some .int), Cond.methodLink RX4 44 Lib.Math.max.name, Cond.methodLink RX4 52 Lib.MathLoose.max_long.x, Cond.static yX9_quotient, Cond.code yX9_quotient cX9_quotient 4 (some .long), Cond.instanceMethod yX4_fineX, Cond.selects RX4 yX4_fineX yX4_fineX, Cond.code yX4_fineX cX4_fineX 4 (some .long), Cond.methodLink RX4 79 yX4_finePart, Cond.static yX4_finePart, Cond.code yX4_finePart cX4_finePart 4 (some .long), Cond.constantLong RX4 83 (16)]
def wsL_law0_r17 : List Cond := [Cond.instanceMethod yX4_fineY, Cond.selects RX4 yX4_fineY yX4_fineY, Cond.code yX4_fineY cX4_fineY 4 (some .long), Cond.instanceMethod yX0_squareTo, Cond.selects RX0 yX0_squareTo yX0_squareTo, Cond.code yX0_squareTo cX0_squareTo 9 (some .long), Cond.instanceMethod yX1_reachesMeasured, Cond.selects RX1 yX1_reachesMeasured yX1_reachesMeasured, Cond.code yX1_reachesMeasured cX1_reachesMeasured 1 (some .boolean), Cond.static yX9_root, Cond.code yX9_root cX9_root 8 (some .long), Cond.constantLong RX9 365 (2), Cond.methodLink RX9 359 yJ13_numberOfLeadingZeros_95d88, Cond.static yJ13_numberOfLeadingZeros_95d88, Cond.initialized RJ13, Cond.code yJ13_numberOfLeadingZeros_95d88 cJ13_numberOfLeadingZeros_95d88 3 (some .int), Cond.methodLink RJ13 308 yJ6_numberOfLeadingZeros_0f7a4, Cond.static yJ6_numberOfLeadingZeros_0f7a4, Cond.initialized RJ6, Cond.code yJ6_numberOfLeadingZeros_0f7a4 cJ6_numberOfLeadingZeros_0f7a4 2 (some .int), Cond.constant RJ6 264 (65536), Cond.methodLink RX9 309 yX9_quotient, Cond.instanceMethod yX0_spans, Cond.selects RX0 yX0_spans yX0_spans]
def wsL_law0_r18 : List Cond := [Cond.code yX0_spans cX0_spans 3 (some .boolean), Cond.methodLink RX0 41 Lib.MathLoose.abs_long.x, Cond.static Lib.MathLoose.abs_long.x, Cond.code Lib.MathLoose.abs_long.x Lib.MathLoose.abs_long.code 2 (some .long), Cond.instanceMethod yX1_sum, Cond.selects RX1 yX1_sum yX1_sum, Cond.code yX1_sum cX1_sum 7 (some .long), Cond.constantLong RX1 92 (16), Cond.instanceMethod yX0_place, Cond.selects RX0 yX0_place yX0_place, Cond.code yX0_place cX0_place 17 (some .boolean), Cond.fieldLink RX0 47 "PolarPlanimeter$Arm" "tracerX" "J", Cond.fieldLink RX0 50 "PolarPlanimeter$Arm" "tracerY" "J", Cond.fieldLink RX0 53 "PolarPlanimeter$Arm" "elbowX" "J", Cond.fieldLink RX0 56 "PolarPlanimeter$Arm" "elbowY" "J", Cond.constantLong RX0 70 (2), Cond.methodLink RX0 75 Lib.MathLoose.max_long.x, Cond.methodLink RX0 59 yX0_squareTo, Cond.methodLink RX0 66 yX0_spans, Cond.instanceMethod yX8_start, Cond.selects RX8 yX8_start yX8_start, Cond.code yX8_start cX8_start 2 none, Cond.constantLong RX8 9 (512), Cond.fieldLink RX8 11 "PolarPlanimeter$Wheel" "play" "J"]
def wsL_law0_r19 : List Cond := [Cond.fieldLink RX8 17 "PolarPlanimeter$Wheel" "slack" "J", Cond.fieldLink RX8 20 "PolarPlanimeter$Wheel" "counted" "J", Cond.instanceMethod yX4_previous, Cond.selects RX4 yX4_previous yX4_previous, Cond.code yX4_previous cX4_previous 2 (some .int), Cond.methodLink RX1 122 yX1_follow, Cond.instanceMethod yX1_follow, Cond.selects RX1 yX1_follow yX1_follow, Cond.code yX1_follow cX1_follow 9 none, Cond.instanceMethod yX0_sweepTo, Cond.selects RX0 yX0_sweepTo yX0_sweepTo, Cond.code yX0_sweepTo cX0_sweepTo 13 (some .long), Cond.methodLink RX0 78 yX0_place, Cond.instanceMethod yX8_turn, Cond.selects RX8 yX8_turn yX8_turn, Cond.code yX8_turn cX8_turn 4 none, Cond.constantLong RX8 23 (100), Cond.instanceMethod yX5_add, Cond.selects RX5 yX5_add yX5_add, Cond.code yX5_add cX5_add 5 none, Cond.methodLink RL 114 yX10_run, Cond.instanceMethod yX10_run, Cond.selects RX10 yX10_run yX10_run, Cond.code yX10_run cX10_run 3 (some .int)]
def wsL_law0_r20 : List Cond := [Cond.fieldLink RX10 226 "PolarPlanimeterModel" "latest" "I", Cond.methodLink RX10 223 yX10_refusal, Cond.instanceMethod yX10_refusal, Cond.selects RX10 yX10_refusal yX10_refusal, Cond.code yX10_refusal cX10_refusal 2 (some .int), Cond.constantLong RX10 156 (12), Cond.methodLink RX10 153 yX10_shut, Cond.instanceMethod yX10_shut, Cond.selects RX10 yX10_shut yX10_shut, Cond.code yX10_shut cX10_shut 1 (some .int), Cond.methodLink RX10 146 yX10_isOnOutline, Cond.instanceMethod yX10_isOnOutline, Cond.selects RX10 yX10_isOnOutline yX10_isOnOutline, Cond.code yX10_isOnOutline cX10_isOnOutline 3 (some .boolean), Cond.methodLink RX10 133 yX10_isOn, Cond.instanceMethod yX10_isOn, Cond.selects RX10 yX10_isOn yX10_isOn, Cond.code yX10_isOn cX10_isOn 7 (some .boolean), Cond.methodLink RX10 71 yX10_x, Cond.instanceMethod yX10_x, Cond.selects RX10 yX10_x yX10_x, Cond.code yX10_x cX10_x 2 (some .long), Cond.methodLink RX10 74 yX10_y, Cond.instanceMethod yX10_y]
def wsL_law0_r21 : List Cond := [Cond.selects RX10 yX10_y yX10_y, Cond.code yX10_y cX10_y 2 (some .long), Cond.methodLink RX10 100 yX10_turn, Cond.static yX10_turn, Cond.code yX10_turn cX10_turn 12 (some .long), Cond.methodLink RX10 150 yX10_allReached, Cond.instanceMethod yX10_allReached, Cond.selects RX10 yX10_allReached yX10_allReached, Cond.code yX10_allReached cX10_allReached 3 (some .boolean), Cond.methodLink RX10 92 yX10_isReached, Cond.instanceMethod yX10_isReached, Cond.selects RX10 yX10_isReached yX10_isReached, Cond.code yX10_isReached cX10_isReached 4 (some .boolean), Cond.methodLink RX10 77 yX10_steps, Cond.instanceMethod yX10_steps, Cond.selects RX10 yX10_steps yX10_steps, Cond.code yX10_steps cX10_steps 8 (some .int), Cond.methodLink RX10 61 yX10_size, Cond.static yX10_size, Cond.code yX10_size cX10_size 2 (some .long), Cond.methodLink RX10 57 yX10_of, Cond.instanceMethod yX10_of, Cond.selects RX10 yX10_of yX10_of, Cond.code yX10_of cX10_of 2 (some .long)]
def wsL_law0_r22 : List Cond := [Cond.methodLink RX10 81 yX10_pointX, Cond.instanceMethod yX10_pointX, Cond.selects RX10 yX10_pointX yX10_pointX, Cond.code yX10_pointX cX10_pointX 3 (some .long), Cond.constantLong RX10 51 (16), Cond.methodLink RX10 85 yX10_pointY, Cond.instanceMethod yX10_pointY, Cond.selects RX10 yX10_pointY yX10_pointY, Cond.code yX10_pointY cX10_pointY 3 (some .long), Cond.methodLink RX10 88 yX10_reaches, Cond.instanceMethod yX10_reaches, Cond.selects RX10 yX10_reaches yX10_reaches, Cond.code yX10_reaches cX10_reaches 15 (some .boolean), Cond.methodLink RX10 53 yX10_root, Cond.static yX10_root, Cond.code yX10_root cX10_root 8 (some .long), Cond.constantLong RX10 47 (4000000), Cond.constantLong RX10 49 (2), Cond.methodLink RX10 229 yX10_make, Cond.instanceMethod yX10_make, Cond.selects RX10 yX10_make yX10_make, Cond.code yX10_make cX10_make 4 none, Cond.methodLink RX10 219 yX10_sumOf, Cond.instanceMethod yX10_sumOf]
def wsL_law0_r23 : List Cond := [Cond.selects RX10 yX10_sumOf yX10_sumOf, Cond.code yX10_sumOf cX10_sumOf 5 (some .long), Cond.fieldLink RX10 114 "PolarPlanimeterModel" "played" "J", Cond.fieldLink RX10 122 "PolarPlanimeterModel" "wheel" "J", Cond.methodLink RX10 129 yX10_follow, Cond.instanceMethod yX10_follow, Cond.selects RX10 yX10_follow yX10_follow, Cond.code yX10_follow cX10_follow 5 none, Cond.methodLink RX10 108 yX10_sweptIn, Cond.instanceMethod yX10_sweptIn, Cond.selects RX10 yX10_sweptIn yX10_sweptIn, Cond.code yX10_sweptIn cX10_sweptIn 4 (some .long), Cond.methodLink RX10 104 yX10_swept, Cond.instanceMethod yX10_swept, Cond.selects RX10 yX10_swept yX10_swept, Cond.code yX10_swept cX10_swept 13 (some .long), Cond.fieldLink RX10 64 "PolarPlanimeterModel" "elbowX" "J", Cond.fieldLink RX10 68 "PolarPlanimeterModel" "elbowY" "J", Cond.methodLink RX10 96 yX10_layElbow, Cond.instanceMethod yX10_layElbow, Cond.selects RX10 yX10_layElbow yX10_layElbow, Cond.code yX10_layElbow cX10_layElbow 23 none, Cond.methodLink RX10 125 yX10_rollOn, Cond.instanceMethod yX10_rollOn]
def wsL_law0_r24 : List Cond := [Cond.selects RX10 yX10_rollOn yX10_rollOn, Cond.code yX10_rollOn cX10_rollOn 6 none, Cond.constantLong RX10 112 (512), Cond.methodLink RX10 119 yX10_slip, Cond.instanceMethod yX10_slip, Cond.selects RX10 yX10_slip yX10_slip, Cond.code yX10_slip cX10_slip 2 (some .long), Cond.methodLink RL 115 yX9_runAll, Cond.instanceMethod yX9_runAll, Cond.selects RX9 yX9_runAll yX9_runAll, Cond.code yX9_runAll cX9_runAll 5 (some .int), Cond.methodLink RL 118 yX10_runAll, Cond.instanceMethod yX10_runAll, Cond.selects RX10 yX10_runAll yX10_runAll, Cond.code yX10_runAll cX10_runAll 3 (some .int), Cond.methodLink RL 119 yX9_forget, Cond.instanceMethod yX9_forget, Cond.selects RX9 yX9_forget yX9_forget, Cond.code yX9_forget cX9_forget 1 (some .int), Cond.methodLink RL 122 yX10_forget, Cond.instanceMethod yX10_forget, Cond.selects RX10 yX10_forget yX10_forget, Cond.code yX10_forget cX10_forget 1 (some .int), Cond.methodLink RL 123 yL_append]
def wsL_law0_r25 : List Cond := [Cond.static yL_append, Cond.codeWith yL_append cL_append 4 (some .int) [(0, 9, 12, 13), (0, 9, 15, 28)], Cond.methodLink RL 43 yX9_append, Cond.instanceMethod yX9_append, Cond.selects RX9 yX9_append yX9_append, Cond.code yX9_append cX9_append 2 (some .int), Cond.fieldLink RX9 165 "PolarPlanimeter" "bufferLength" "I", Cond.methodLink RL 125 yX10_append, Cond.instanceMethod yX10_append, Cond.selects RX10 yX10_append yX10_append, Cond.code yX10_append cX10_append 2 (some .int), Cond.constantLong RX10 232 (33), Cond.constantLong RX10 234 (126), Cond.fieldLink RX10 236 "PolarPlanimeterModel" "length" "I", Cond.methodLink RL 126 yX9_clearBuffer, Cond.instanceMethod yX9_clearBuffer, Cond.selects RX9 yX9_clearBuffer yX9_clearBuffer, Cond.code yX9_clearBuffer cX9_clearBuffer 2 (some .int), Cond.methodLink RL 129 yX10_clearBuffer, Cond.instanceMethod yX10_clearBuffer, Cond.selects RX10 yX10_clearBuffer yX10_clearBuffer, Cond.code yX10_clearBuffer cX10_clearBuffer 2 (some .int), Cond.methodLink RL 130 yX9_firstError, Cond.instanceMethod yX9_firstError]
def wsL_law0_r26 : List Cond := [Cond.selects RX9 yX9_firstError yX9_firstError, Cond.code yX9_firstError cX9_firstError 1 (some .int), Cond.instanceMethod yX7_read, Cond.selects RX7 yX7_read yX7_read, Cond.code yX7_read cX7_read 4 (some .int), Cond.fieldLink RX7 18 "PolarPlanimeter$TextReader" "latest" "I", Cond.fieldLink RX7 22 "PolarPlanimeter$TextReader" "atY" "Z", Cond.methodLink RX7 26 yX7_beginNumber, Cond.instanceMethod yX7_beginNumber, Cond.selects RX7 yX7_beginNumber yX7_beginNumber, Cond.code yX7_beginNumber cX7_beginNumber 1 none, Cond.fieldLink RX7 33 "PolarPlanimeter$TextReader" "place" "I", Cond.fieldLink RX7 45 "PolarPlanimeter$TextReader" "negative" "Z", Cond.fieldLink RX7 48 "PolarPlanimeter$TextReader" "size" "I", Cond.methodLink RX7 29 yX7_accept, Cond.instanceMethod yX7_accept, Cond.selects RX7 yX7_accept yX7_accept, Cond.code yX7_accept cX7_accept 2 (some .boolean), Cond.methodLink RX7 51 yX7_acceptMinus, Cond.instanceMethod yX7_acceptMinus, Cond.selects RX7 yX7_acceptMinus yX7_acceptMinus, Cond.code yX7_acceptMinus cX7_acceptMinus 1 (some .boolean), Cond.methodLink RX7 55 yX7_acceptComma, Cond.instanceMethod yX7_acceptComma]
def wsL_law0_r27 : List Cond := [Cond.selects RX7 yX7_acceptComma yX7_acceptComma, Cond.code yX7_acceptComma cX7_acceptComma 1 (some .boolean), Cond.methodLink RX7 58 yX7_acceptSemicolon, Cond.instanceMethod yX7_acceptSemicolon, Cond.selects RX7 yX7_acceptSemicolon yX7_acceptSemicolon, Cond.code yX7_acceptSemicolon cX7_acceptSemicolon 1 (some .boolean), Cond.methodLink RX7 61 yX7_acceptDigit, Cond.instanceMethod yX7_acceptDigit, Cond.selects RX7 yX7_acceptDigit yX7_acceptDigit, Cond.code yX7_acceptDigit cX7_acceptDigit 5 (some .boolean), Cond.methodLink RX7 64 yX7_keepNumber, Cond.instanceMethod yX7_keepNumber, Cond.selects RX7 yX7_keepNumber yX7_keepNumber, Cond.code yX7_keepNumber cX7_keepNumber 2 none, Cond.methodLink RL 133 yX10_firstError, Cond.instanceMethod yX10_firstError, Cond.selects RX10 yX10_firstError yX10_firstError, Cond.code yX10_firstError cX10_firstError 1 (some .int), Cond.methodLink RX10 267 yX10_readText, Cond.instanceMethod yX10_readText, Cond.selects RX10 yX10_readText yX10_readText, Cond.code yX10_readText cX10_readText 2 (some .int), Cond.fieldLink RX10 239 "PolarPlanimeterModel" "step" "I", Cond.fieldLink RX10 255 "PolarPlanimeterModel" "numbers" "I"]
def wsL_law0_r28 : List Cond := [Cond.methodLink RX10 261 yX10_goesOn, Cond.instanceMethod yX10_goesOn, Cond.selects RX10 yX10_goesOn yX10_goesOn, Cond.code yX10_goesOn cX10_goesOn 5 (some .boolean), Cond.fieldLink RX10 252 "PolarPlanimeterModel" "number" "I", Cond.constantLong RX10 246 (48), Cond.constantLong RX10 250 (57), Cond.methodLink RX10 258 yX10_endNumber, Cond.instanceMethod yX10_endNumber, Cond.selects RX10 yX10_endNumber yX10_endNumber, Cond.code yX10_endNumber cX10_endNumber 1 none, Cond.fieldLink RX10 242 "PolarPlanimeterModel" "isBelow" "Z", Cond.methodLink RX10 264 yX10_begins, Cond.instanceMethod yX10_begins, Cond.selects RX10 yX10_begins yX10_begins, Cond.code yX10_begins cX10_begins 3 (some .boolean), Cond.constantLong RX10 248 (49), Cond.methodLink RL 134 yL_load, Cond.static yL_load, Cond.codeWith yL_load cL_load 3 (some .int) [(0, 8, 11, 13)], Cond.methodLink RL 46 yX9_load, Cond.instanceMethod yX9_load, Cond.selects RX9 yX9_load yX9_load, Cond.code yX9_load cX9_load 2 (some .int)]
def wsL_law0_r29 : List Cond := [Cond.instanceMethod yX7_isComplete, Cond.selects RX7 yX7_isComplete yX7_isComplete, Cond.code yX7_isComplete cX7_isComplete 1 (some .boolean), Cond.instanceMethod yX7_putInto, Cond.selects RX7 yX7_putInto yX7_putInto, Cond.code yX7_putInto cX7_putInto 3 none, Cond.methodLink RL 137 yX10_load, Cond.instanceMethod yX10_load, Cond.selects RX10 yX10_load yX10_load, Cond.code yX10_load cX10_load 3 (some .int), Cond.methodLink RL 138 yL_undo, Cond.static yL_undo, Cond.codeWith yL_undo cL_undo 3 (some .int) [(0, 8, 11, 28)], Cond.methodLink RL 50 yX9_undo, Cond.instanceMethod yX9_undo, Cond.selects RX9 yX9_undo yX9_undo, Cond.code yX9_undo cX9_undo 1 (some .int), Cond.instanceMethod yX2_restore, Cond.selects RX2 yX2_restore yX2_restore, Cond.code yX2_restore cX2_restore 2 none, Cond.methodLink RL 140 yX10_undo, Cond.instanceMethod yX10_undo, Cond.selects RX10 yX10_undo yX10_undo, Cond.code yX10_undo cX10_undo 2 (some .int)]
def wsL_law0_r30 : List Cond := [Cond.methodLink RL 141 yX9_reason, Cond.instanceMethod yX9_reason, Cond.selects RX9 yX9_reason yX9_reason, Cond.code yX9_reason cX9_reason 1 (some .int), Cond.methodLink RL 144 yX10_reason, Cond.instanceMethod yX10_reason, Cond.selects RX10 yX10_reason yX10_reason, Cond.code yX10_reason cX10_reason 1 (some .int), Cond.methodLink RL 145 yL_corner, Cond.static yL_corner, Cond.codeWith yL_corner cL_corner 5 (some .int) [(0, 9, 12, 18), (0, 9, 16, 13)], Cond.methodLink RL 53 yX9_corner, Cond.instanceMethod yX9_corner, Cond.selects RX9 yX9_corner yX9_corner, Cond.code yX9_corner cX9_corner 3 (some .long), Cond.methodLink RX9 192 yX9_checkWhat, Cond.static yX9_checkWhat, Cond.code yX9_checkWhat cX9_checkWhat 2 none, Cond.methodLink RX9 195 yX9_cornerProperty, Cond.instanceMethod yX9_cornerProperty, Cond.selects RX9 yX9_cornerProperty yX9_cornerProperty, Cond.code yX9_cornerProperty cX9_cornerProperty 4 (some .long), Cond.methodLink RX9 286 yX9_isSegmentInReach, Cond.instanceMethod yX9_isSegmentInReach]
def wsL_law0_r31 : List Cond := [Cond.selects RX9 yX9_isSegmentInReach yX9_isSegmentInReach, Cond.code yX9_isSegmentInReach cX9_isSegmentInReach 2 (some .boolean), Cond.instanceMethod yX1_measureOne, Cond.selects RX1 yX1_measureOne yX1_measureOne, Cond.code yX1_measureOne cX1_measureOne 3 none, Cond.instanceMethod yX1_roll, Cond.selects RX1 yX1_roll yX1_roll, Cond.code yX1_roll cX1_roll 8 (some .long), Cond.methodLink RL 147 yX10_corner, Cond.instanceMethod yX10_corner, Cond.selects RX10 yX10_corner yX10_corner, Cond.code yX10_corner cX10_corner 3 (some .long), Cond.constantLong RX10 273 (5), Cond.methodLink RX10 275 yX10_cornerNow, Cond.instanceMethod yX10_cornerNow, Cond.selects RX10 yX10_cornerNow yX10_cornerNow, Cond.code yX10_cornerNow cX10_cornerNow 3 (some .long), Cond.methodLink RX10 270 yX10_roll, Cond.instanceMethod yX10_roll, Cond.selects RX10 yX10_roll yX10_roll, Cond.code yX10_roll cX10_roll 6 (some .long), Cond.methodLink RL 148 yL_made, Cond.static yL_made, Cond.codeWith yL_made cL_made 5 (some .int) [(0, 9, 12, 18), (0, 9, 16, 13)]]
def wsL_law0_r32 : List Cond := [Cond.methodLink RL 57 yX9_made, Cond.instanceMethod yX9_made, Cond.selects RX9 yX9_made yX9_made, Cond.code yX9_made cX9_made 3 (some .long), Cond.methodLink RX9 201 yX9_runProperty, Cond.instanceMethod yX9_runProperty, Cond.selects RX9 yX9_runProperty yX9_runProperty, Cond.code yX9_runProperty cX9_runProperty 4 (some .long), Cond.constantLong RX9 307 (512), Cond.instanceMethod yX6_constant, Cond.selects RX6 yX6_constant yX6_constant, Cond.code yX6_constant cX6_constant 3 (some .long), Cond.constantLong RX6 63 (355), Cond.constantLong RX6 65 (113), Cond.methodLink RX6 59 yX6_winding, Cond.instanceMethod yX6_winding, Cond.selects RX6 yX6_winding yX6_winding, Cond.code yX6_winding cX6_winding 1 (some .long), Cond.instanceMethod yX4_windingAround, Cond.selects RX4 yX4_windingAround yX4_windingAround, Cond.code yX4_windingAround cX4_windingAround 6 (some .long), Cond.methodLink RX4 63 yX4_crossing, Cond.instanceMethod yX4_crossing, Cond.selects RX4 yX4_crossing yX4_crossing]
def wsL_law0_r33 : List Cond := [Cond.code yX4_crossing cX4_crossing 7 (some .int), Cond.instanceMethod yX5_area, Cond.selects RX5 yX5_area yX5_area, Cond.code yX5_area cX5_area 4 (some .long), Cond.constantLong RX5 27 (512), Cond.instanceMethod yX3_take, Cond.selects RX3 yX3_take yX3_take, Cond.code yX3_take cX3_take 5 none, Cond.fieldLink RX3 34 "PolarPlanimeter$Mean" "runs" "I", Cond.fieldLink RX3 36 "PolarPlanimeter$Mean" "kept" "I", Cond.fieldLink RX3 61 "PolarPlanimeter$Mean" "value" "J", Cond.methodLink RX3 50 yX3_leaveOut, Cond.instanceMethod yX3_leaveOut, Cond.selects RX3 yX3_leaveOut yX3_leaveOut, Cond.code yX3_leaveOut cX3_leaveOut 6 none, Cond.methodLink RX3 72 Lib.MathLoose.abs_long.x, Cond.methodLink RX3 65 yX3_middleOfKept, Cond.instanceMethod yX3_middleOfKept, Cond.selects RX3 yX3_middleOfKept yX3_middleOfKept, Cond.code yX3_middleOfKept cX3_middleOfKept 3 (some .long), Cond.methodLink RX3 82 Lib.Math.max.name, Cond.methodLink RX3 78 yX3_sortIn, Cond.instanceMethod yX3_sortIn, Cond.selects RX3 yX3_sortIn yX3_sortIn]
def wsL_law0_r34 : List Cond := [Cond.code yX3_sortIn cX3_sortIn 5 none, Cond.methodLink RX3 68 yX3_farthestFrom, Cond.instanceMethod yX3_farthestFrom, Cond.selects RX3 yX3_farthestFrom yX3_farthestFrom, Cond.code yX3_farthestFrom cX3_farthestFrom 9 (some .int), Cond.constantLong RX3 86 (-1), Cond.methodLink RX3 54 yX3_sumOfKept, Cond.instanceMethod yX3_sumOfKept, Cond.selects RX3 yX3_sumOfKept yX3_sumOfKept, Cond.code yX3_sumOfKept cX3_sumOfKept 4 (some .long), Cond.methodLink RL 150 yX10_made, Cond.instanceMethod yX10_made, Cond.selects RX10 yX10_made yX10_made, Cond.code yX10_made cX10_made 3 (some .long), Cond.methodLink RX10 278 yX10_madeNow, Cond.instanceMethod yX10_madeNow, Cond.selects RX10 yX10_madeNow yX10_madeNow, Cond.code yX10_madeNow cX10_madeNow 3 (some .long), Cond.methodLink RX10 164 yX10_areaOf, Cond.instanceMethod yX10_areaOf, Cond.selects RX10 yX10_areaOf yX10_areaOf, Cond.code yX10_areaOf cX10_areaOf 2 (some .long), Cond.methodLink RX10 158 yX10_constant, Cond.instanceMethod yX10_constant]
def wsL_law0_r35 : List Cond := [Cond.selects RX10 yX10_constant yX10_constant, Cond.code yX10_constant cX10_constant 1 (some .long), Cond.constantLong RX10 142 (355), Cond.constantLong RX10 144 (113), Cond.methodLink RX10 138 yX10_winding, Cond.instanceMethod yX10_winding, Cond.selects RX10 yX10_winding yX10_winding, Cond.code yX10_winding cX10_winding 8 (some .long), Cond.constantLong RX10 136 (-1), Cond.methodLink RX10 170 yX10_layMean, Cond.instanceMethod yX10_layMean, Cond.selects RX10 yX10_layMean yX10_layMean, Cond.code yX10_layMean cX10_layMean 10 none, Cond.methodLink RX10 161 yX10_left, Cond.instanceMethod yX10_left, Cond.selects RX10 yX10_left yX10_left, Cond.code yX10_left cX10_left 3 (some .int), Cond.methodLink RX10 167 yX10_middle, Cond.instanceMethod yX10_middle, Cond.selects RX10 yX10_middle yX10_middle, Cond.code yX10_middle cX10_middle 6 (some .long), Cond.methodLink RL 151 yL_elbow, Cond.static yL_elbow, Cond.codeWith yL_elbow cL_elbow 6 (some .int) [(0, 11, 14, 13)]]
def wsL_law0_r36 : List Cond := [Cond.methodLink RL 60 yX9_elbow, Cond.instanceMethod yX9_elbow, Cond.selects RX9 yX9_elbow yX9_elbow, Cond.code yX9_elbow cX9_elbow 6 (some .long), Cond.constant RX9 204 (40000), Cond.methodLink RL 153 yX10_elbow, Cond.instanceMethod yX10_elbow, Cond.selects RX10 yX10_elbow yX10_elbow, Cond.code yX10_elbow cX10_elbow 4 (some .long), Cond.constantLong RX10 281 (-40000), Cond.constantLong RX10 283 (40000), Cond.methodLink RX10 285 yX10_elbowNow, Cond.instanceMethod yX10_elbowNow, Cond.selects RX10 yX10_elbowNow yX10_elbowNow, Cond.code yX10_elbowNow cX10_elbowNow 6 (some .long), Cond.methodLink RL 154 yL_count, Cond.static yL_count, Cond.codeWith yL_count cL_count 4 (some .int) [(0, 8, 11, 13)], Cond.methodLink RL 64 yX9_count, Cond.instanceMethod yX9_count, Cond.selects RX9 yX9_count yX9_count, Cond.code yX9_count cX9_count 2 (some .long), Cond.methodLink RX9 227 yX9_number, Cond.instanceMethod yX9_number]
def wsL_law0_r37 : List Cond := [Cond.selects RX9 yX9_number yX9_number, Cond.code yX9_number cX9_number 2 (some .long), Cond.instanceMethod yX4_twiceArea, Cond.selects RX4 yX4_twiceArea yX4_twiceArea, Cond.code yX4_twiceArea cX4_twiceArea 5 (some .long), Cond.instanceMethod yX4_area, Cond.selects RX4 yX4_area yX4_area, Cond.code yX4_area cX4_area 1 (some .long), Cond.constantLong RX4 61 (2), Cond.methodLink RX4 57 yX4_twiceArea, Cond.methodLink RX9 251 yX9_meanMinusArea, Cond.instanceMethod yX9_meanMinusArea, Cond.selects RX9 yX9_meanMinusArea yX9_meanMinusArea, Cond.code yX9_meanMinusArea cX9_meanMinusArea 1 (some .long), Cond.instanceMethod yX4_allSteps, Cond.selects RX4 yX4_allSteps yX4_allSteps, Cond.code yX4_allSteps cX4_allSteps 5 (some .long), Cond.methodLink RX4 54 yX4_steps, Cond.methodLink RL 156 yX10_count, Cond.instanceMethod yX10_count, Cond.selects RX10 yX10_count yX10_count, Cond.code yX10_count cX10_count 2 (some .long), Cond.constantLong RX10 304 (14), Cond.methodLink RX10 306 yX10_counted]
def wsL_law0_r38 : List Cond := [Cond.instanceMethod yX10_counted, Cond.selects RX10 yX10_counted yX10_counted, Cond.code yX10_counted cX10_counted 2 (some .long), Cond.methodLink RX10 292 yX10_twiceArea, Cond.instanceMethod yX10_twiceArea, Cond.selects RX10 yX10_twiceArea yX10_twiceArea, Cond.code yX10_twiceArea cX10_twiceArea 4 (some .long), Cond.methodLink RX10 289 yX10_mean, Cond.instanceMethod yX10_mean, Cond.selects RX10 yX10_mean yX10_mean, Cond.code yX10_mean cX10_mean 4 (some .long), Cond.methodLink RX10 295 yX10_outs, Cond.instanceMethod yX10_outs, Cond.selects RX10 yX10_outs yX10_outs, Cond.code yX10_outs cX10_outs 1 (some .long), Cond.methodLink RX10 298 yX10_difference, Cond.instanceMethod yX10_difference, Cond.selects RX10 yX10_difference yX10_difference, Cond.code yX10_difference cX10_difference 1 (some .long), Cond.methodLink RX10 301 yX10_allSteps, Cond.instanceMethod yX10_allSteps, Cond.selects RX10 yX10_allSteps yX10_allSteps, Cond.code yX10_allSteps cX10_allSteps 4 (some .long), Cond.methodLink RL 157 yL_setting]
def wsL_law0_r39 : List Cond := [Cond.static yL_setting, Cond.codeWith yL_setting cL_setting 4 (some .int) [(0, 9, 12, 18)], Cond.methodLink RL 68 yX9_setting, Cond.instanceMethod yX9_setting, Cond.selects RX9 yX9_setting yX9_setting, Cond.code yX9_setting cX9_setting 2 (some .int), Cond.methodLink RL 159 yX10_setting, Cond.instanceMethod yX10_setting, Cond.selects RX10 yX10_setting yX10_setting, Cond.code yX10_setting cX10_setting 2 (some .int), Cond.methodLink RL 160 yL_why, Cond.static yL_why, Cond.codeWith yL_why cL_why 5 (some .int) [(0, 10, 13, 18)], Cond.methodLink RL 71 yX9_why, Cond.instanceMethod yX9_why, Cond.selects RX9 yX9_why yX9_why, Cond.code yX9_why cX9_why 3 (some .int), Cond.methodLink RL 162 yX10_why, Cond.instanceMethod yX10_why, Cond.selects RX10 yX10_why yX10_why, Cond.code yX10_why cX10_why 3 (some .int), Cond.methodLink RL 163 yL_ifSet, Cond.static yL_ifSet, Cond.codeWith yL_ifSet cL_ifSet 7 (some .int) [(0, 13, 16, 18), (0, 13, 20, 13)]]
def wsL_law0_r40 : List Cond := [Cond.methodLink RL 74 yX9_ifSet, Cond.instanceMethod yX9_ifSet, Cond.selects RX9 yX9_ifSet yX9_ifSet, Cond.code yX9_ifSet cX9_ifSet 5 (some .long), Cond.methodLink RL 166 yX10_ifSet, Cond.instanceMethod yX10_ifSet, Cond.selects RX10 yX10_ifSet yX10_ifSet, Cond.code yX10_ifSet cX10_ifSet 5 (some .long), Cond.methodLink RX10 309 yX10_sumWith, Cond.instanceMethod yX10_sumWith, Cond.selects RX10 yX10_sumWith yX10_sumWith, Cond.code yX10_sumWith cX10_sumWith 9 (some .long), Cond.methodLink RL 167 yX9_leastArm, Cond.instanceMethod yX9_leastArm, Cond.selects RX9 yX9_leastArm yX9_leastArm, Cond.code yX9_leastArm cX9_leastArm 2 (some .int), Cond.instanceMethod yX1_reachesMeasuredWith, Cond.selects RX1 yX1_reachesMeasuredWith yX1_reachesMeasuredWith, Cond.code yX1_reachesMeasuredWith cX1_reachesMeasuredWith 2 (some .boolean), Cond.methodLink RX1 97 yX1_reachesMeasured, Cond.methodLink RL 170 yX10_leastArm, Cond.instanceMethod yX10_leastArm, Cond.selects RX10 yX10_leastArm yX10_leastArm, Cond.code yX10_leastArm cX10_leastArm 1 (some .int)]
def wsL_law0_r41 : List Cond := [Cond.methodLink RX10 313 yX10_leastNow, Cond.instanceMethod yX10_leastNow, Cond.selects RX10 yX10_leastNow yX10_leastNow, Cond.code yX10_leastNow cX10_leastNow 5 (some .int), Cond.methodLink RL 171 yX9_error, Cond.instanceMethod yX9_error, Cond.selects RX9 yX9_error yX9_error, Cond.code yX9_error cX9_error 3 (some .double), Cond.methodLink RL 175 yX10_error, Cond.instanceMethod yX10_error, Cond.selects RX10 yX10_error yX10_error, Cond.code yX10_error cX10_error 1 (some .double), Cond.methodLink RX10 316 yX10_errorNow, Cond.instanceMethod yX10_errorNow, Cond.selects RX10 yX10_errorNow yX10_errorNow, Cond.code yX10_errorNow cX10_errorNow 3 (some .double), Cond.methodLink RL 176 yX9_digest, Cond.instanceMethod yX9_digest, Cond.selects RX9 yX9_digest yX9_digest, Cond.code yX9_digest cX9_digest 5 (some .long), Cond.constantLong RX9 254 (2113), Cond.methodLink RX9 256 yX9_hashed, Cond.static yX9_hashed, Cond.code yX9_hashed cX9_hashed 4 (some .long)]
def wsL_law0_r42 : List Cond := [Cond.constantLong RX9 339 (31), Cond.methodLink RX9 260 yX9_leastArm, Cond.methodLink RX9 263 yX9_errorBits, Cond.instanceMethod yX9_errorBits, Cond.selects RX9 yX9_errorBits yX9_errorBits, Cond.code yX9_errorBits cX9_errorBits 8 (some .long), Cond.constantLong RX9 349 (-9223372036854775808), Cond.methodLink RX9 341 yX9_error, Cond.methodLink RX9 345 yX9_bitsOfSize, Cond.static yX9_bitsOfSize, Cond.code yX9_bitsOfSize cX9_bitsOfSize 8 (some .long), Cond.constantDouble RX9 351 (4611686018427387904), Cond.constantLong RX9 353 (1023), Cond.constantLong RX9 355 (-1022), Cond.constantDouble RX9 357 (4841369599423283200), Cond.methodLink RL 180 yX10_digest, Cond.instanceMethod yX10_digest, Cond.selects RX10 yX10_digest yX10_digest, Cond.code yX10_digest cX10_digest 3 (some .long), Cond.constantLong RX10 325 (2113), Cond.fieldLink RX10 322 "PolarPlanimeterModel" "h" "J", Cond.methodLink RX10 327 yX10_mix, Cond.instanceMethod yX10_mix, Cond.selects RX10 yX10_mix yX10_mix]
def wsL_law0_r43 : List Cond := [Cond.code yX10_mix cX10_mix 3 none, Cond.constantLong RX10 320 (31), Cond.methodLink RX10 331 yJxe99ae_doubleToLongBits_ccdee, Cond.static yJxe99ae_doubleToLongBits_ccdee, Cond.initialized RJxe99ae, Cond.code yJxe99ae_doubleToLongBits_ccdee cJxe99ae_doubleToLongBits_ccdee 2 (some .long), Cond.methodLink RJxe99ae 134 ⟨"java/lang/Double", "doubleToRawLongBits", "(D)J"⟩, Cond.native ⟨"java/lang/Double", "doubleToRawLongBits", "(D)J"⟩, Cond.static ⟨"java/lang/Double", "doubleToRawLongBits", "(D)J"⟩, Cond.initialized "java/lang/Double", Cond.constantLong RJxe99ae 137 (9221120237041090560), Cond.methodLink RJxe99ae 122 yJxe99ae_isNaN_b9ae7, Cond.static yJxe99ae_isNaN_b9ae7, Cond.code yJxe99ae_isNaN_b9ae7 cJxe99ae_isNaN_b9ae7 2 (some .boolean)]
def wsL_law0 : List Cond := (wsL_law0_r1 ++ (wsL_law0_r2 ++ (wsL_law0_r3 ++ (wsL_law0_r4 ++ (wsL_law0_r5 ++ (wsL_law0_r6 ++ (wsL_law0_r7 ++ (wsL_law0_r8 ++ (wsL_law0_r9 ++ (wsL_law0_r10 ++ (wsL_law0_r11 ++ (wsL_law0_r12 ++ (wsL_law0_r13 ++ (wsL_law0_r14 ++ (wsL_law0_r15 ++ (wsL_law0_r16 ++ (wsL_law0_r17 ++ (wsL_law0_r18 ++ (wsL_law0_r19 ++ (wsL_law0_r20 ++ (wsL_law0_r21 ++ (wsL_law0_r22 ++ (wsL_law0_r23 ++ (wsL_law0_r24 ++ (wsL_law0_r25 ++ (wsL_law0_r26 ++ (wsL_law0_r27 ++ (wsL_law0_r28 ++ (wsL_law0_r29 ++ (wsL_law0_r30 ++ (wsL_law0_r31 ++ (wsL_law0_r32 ++ (wsL_law0_r33 ++ (wsL_law0_r34 ++ (wsL_law0_r35 ++ (wsL_law0_r36 ++ (wsL_law0_r37 ++ (wsL_law0_r38 ++ (wsL_law0_r39 ++ (wsL_law0_r40 ++ (wsL_law0_r41 ++ (wsL_law0_r42 ++ wsL_law0_r43)))))))))))))))))))))))))))))))))))))))))) ++ wsX90 ++ wsX100 ++ wsX60 ++ wsX20 ++ wsX10 ++ wsX30 ++ wsX70 ++ wsX40 ++ wsX50 ++ wsX00 ++ wsX80 ++ ([] : List Cond)
def wsL_law : List Cond := wsL_law0 ++ (vx_atS RX9 59 "java/lang/IllegalArgumentException" ["java/lang/RuntimeException", "java/lang/Exception"]).filter goodWord ++ (vx_atS RX9 113 "java/lang/IndexOutOfBoundsException" ["java/lang/RuntimeException", "java/lang/Exception"]).filter goodWord ++ (vx_atS RX9 121 "java/lang/IllegalStateException" ["java/lang/RuntimeException", "java/lang/Exception"]).filter goodWord
theorem inlX0 : ∀ w ∈ wsX00, w ∈ wsL_law := fun _ h => List.mem_append_left _ (List.mem_append_left _ (List.mem_append_left _ (List.mem_append_left _ (List.mem_append_left _ (List.mem_append_right _ h)))))
theorem inlX1 : ∀ w ∈ wsX10, w ∈ wsL_law := fun _ h => List.mem_append_left _ (List.mem_append_left _ (List.mem_append_left _ (List.mem_append_left _ (List.mem_append_left _ (List.mem_append_left _ (List.mem_append_left _ (List.mem_append_left _ (List.mem_append_left _ (List.mem_append_left _ (List.mem_append_right _ h))))))))))
theorem inlX2 : ∀ w ∈ wsX20, w ∈ wsL_law := fun _ h => List.mem_append_left _ (List.mem_append_left _ (List.mem_append_left _ (List.mem_append_left _ (List.mem_append_left _ (List.mem_append_left _ (List.mem_append_left _ (List.mem_append_left _ (List.mem_append_left _ (List.mem_append_left _ (List.mem_append_left _ (List.mem_append_right _ h)))))))))))
theorem inlX3 : ∀ w ∈ wsX30, w ∈ wsL_law := fun _ h => List.mem_append_left _ (List.mem_append_left _ (List.mem_append_left _ (List.mem_append_left _ (List.mem_append_left _ (List.mem_append_left _ (List.mem_append_left _ (List.mem_append_left _ (List.mem_append_left _ (List.mem_append_right _ h)))))))))
theorem inlX4 : ∀ w ∈ wsX40, w ∈ wsL_law := fun _ h => List.mem_append_left _ (List.mem_append_left _ (List.mem_append_left _ (List.mem_append_left _ (List.mem_append_left _ (List.mem_append_left _ (List.mem_append_left _ (List.mem_append_right _ h)))))))
theorem inlX5 : ∀ w ∈ wsX50, w ∈ wsL_law := fun _ h => List.mem_append_left _ (List.mem_append_left _ (List.mem_append_left _ (List.mem_append_left _ (List.mem_append_left _ (List.mem_append_left _ (List.mem_append_right _ h))))))
theorem inlX6 : ∀ w ∈ wsX60, w ∈ wsL_law := fun _ h => List.mem_append_left _ (List.mem_append_left _ (List.mem_append_left _ (List.mem_append_left _ (List.mem_append_left _ (List.mem_append_left _ (List.mem_append_left _ (List.mem_append_left _ (List.mem_append_left _ (List.mem_append_left _ (List.mem_append_left _ (List.mem_append_left _ (List.mem_append_right _ h))))))))))))
theorem inlX7 : ∀ w ∈ wsX70, w ∈ wsL_law := fun _ h => List.mem_append_left _ (List.mem_append_left _ (List.mem_append_left _ (List.mem_append_left _ (List.mem_append_left _ (List.mem_append_left _ (List.mem_append_left _ (List.mem_append_left _ (List.mem_append_right _ h))))))))
theorem inlX8 : ∀ w ∈ wsX80, w ∈ wsL_law := fun _ h => List.mem_append_left _ (List.mem_append_left _ (List.mem_append_left _ (List.mem_append_left _ (List.mem_append_right _ h))))
theorem inlX9 : ∀ w ∈ wsX90, w ∈ wsL_law := fun _ h => List.mem_append_left _ (List.mem_append_left _ (List.mem_append_left _ (List.mem_append_left _ (List.mem_append_left _ (List.mem_append_left _ (List.mem_append_left _ (List.mem_append_left _ (List.mem_append_left _ (List.mem_append_left _ (List.mem_append_left _ (List.mem_append_left _ (List.mem_append_left _ (List.mem_append_left _ (List.mem_append_right _ h))))))))))))))
theorem inlX10 : ∀ w ∈ wsX100, w ∈ wsL_law := fun _ h => List.mem_append_left _ (List.mem_append_left _ (List.mem_append_left _ (List.mem_append_left _ (List.mem_append_left _ (List.mem_append_left _ (List.mem_append_left _ (List.mem_append_left _ (List.mem_append_left _ (List.mem_append_left _ (List.mem_append_left _ (List.mem_append_left _ (List.mem_append_left _ (List.mem_append_right _ h)))))))))))))
theorem inJxe99ae : ∀ w ∈ wsJxe99ae0, w ∈ lw_tbl := by decide +kernel
theorem inJ6 : ∀ w ∈ wsJ60, w ∈ lw_tbl := by decide +kernel
theorem inJ13 : ∀ w ∈ wsJ130, w ∈ lw_tbl := by decide +kernel
theorem inJ9 : ∀ w ∈ wsJ90, w ∈ lw_tbl := by decide +kernel
theorem inJ0 : ∀ w ∈ wsJ00, w ∈ lw_tbl := by decide +kernel
theorem inJ10 : ∀ w ∈ wsJ100, w ∈ lw_tbl := by decide +kernel
abbrev vwCl : List vw_C := [(RX0, TX0, 9), (RX1, TX1, 4), (RX2, TX2, 2), (RX3, TX3, 6), (RX4, TX4, 4), (RX5, TX5, 4), (RX6, TX6, 6), (RX7, TX7, 7), (RX8, TX8, 3), (RX9, TX9, 9), (RX10, TX10, 18)]
end
section
theorem mwr1 : ∀ w ∈ wsL_law0_r1, w ∈ wsL_law := fun _ h => List.mem_append_left _ (List.mem_append_left _ (List.mem_append_left _ (List.mem_append_left _ (List.mem_append_left _ (List.mem_append_left _ (List.mem_append_left _ (List.mem_append_left _ (List.mem_append_left _ (List.mem_append_left _ (List.mem_append_left _ (List.mem_append_left _ (List.mem_append_left _ (List.mem_append_left _ (List.mem_append_left _ (List.mem_append_left _ h)))))))))))))))
theorem mwr2 : ∀ w ∈ wsL_law0_r2, w ∈ wsL_law := fun _ h => List.mem_append_left _ (List.mem_append_left _ (List.mem_append_left _ (List.mem_append_left _ (List.mem_append_left _ (List.mem_append_left _ (List.mem_append_left _ (List.mem_append_left _ (List.mem_append_left _ (List.mem_append_left _ (List.mem_append_left _ (List.mem_append_left _ (List.mem_append_left _ (List.mem_append_left _ (List.mem_append_left _ (List.mem_append_right _ (List.mem_append_left _ h))))))))))))))))
theorem mwr3 : ∀ w ∈ wsL_law0_r3, w ∈ wsL_law := fun _ h => List.mem_append_left _ (List.mem_append_left _ (List.mem_append_left _ (List.mem_append_left _ (List.mem_append_left _ (List.mem_append_left _ (List.mem_append_left _ (List.mem_append_left _ (List.mem_append_left _ (List.mem_append_left _ (List.mem_append_left _ (List.mem_append_left _ (List.mem_append_left _ (List.mem_append_left _ (List.mem_append_left _ (List.mem_append_right _ (List.mem_append_right _ (List.mem_append_left _ h)))))))))))))))))
theorem mwr4 : ∀ w ∈ wsL_law0_r4, w ∈ wsL_law := fun _ h => List.mem_append_left _ (List.mem_append_left _ (List.mem_append_left _ (List.mem_append_left _ (List.mem_append_left _ (List.mem_append_left _ (List.mem_append_left _ (List.mem_append_left _ (List.mem_append_left _ (List.mem_append_left _ (List.mem_append_left _ (List.mem_append_left _ (List.mem_append_left _ (List.mem_append_left _ (List.mem_append_left _ (List.mem_append_right _ (List.mem_append_right _ (List.mem_append_right _ (List.mem_append_left _ h))))))))))))))))))
theorem mwr5 : ∀ w ∈ wsL_law0_r5, w ∈ wsL_law := fun _ h => List.mem_append_left _ (List.mem_append_left _ (List.mem_append_left _ (List.mem_append_left _ (List.mem_append_left _ (List.mem_append_left _ (List.mem_append_left _ (List.mem_append_left _ (List.mem_append_left _ (List.mem_append_left _ (List.mem_append_left _ (List.mem_append_left _ (List.mem_append_left _ (List.mem_append_left _ (List.mem_append_left _ (List.mem_append_right _ (List.mem_append_right _ (List.mem_append_right _ (List.mem_append_right _ (List.mem_append_left _ h)))))))))))))))))))
theorem mwr6 : ∀ w ∈ wsL_law0_r6, w ∈ wsL_law := fun _ h => List.mem_append_left _ (List.mem_append_left _ (List.mem_append_left _ (List.mem_append_left _ (List.mem_append_left _ (List.mem_append_left _ (List.mem_append_left _ (List.mem_append_left _ (List.mem_append_left _ (List.mem_append_left _ (List.mem_append_left _ (List.mem_append_left _ (List.mem_append_left _ (List.mem_append_left _ (List.mem_append_left _ (List.mem_append_right _ (List.mem_append_right _ (List.mem_append_right _ (List.mem_append_right _ (List.mem_append_right _ (List.mem_append_left _ h))))))))))))))))))))
theorem mwr7 : ∀ w ∈ wsL_law0_r7, w ∈ wsL_law := fun _ h => List.mem_append_left _ (List.mem_append_left _ (List.mem_append_left _ (List.mem_append_left _ (List.mem_append_left _ (List.mem_append_left _ (List.mem_append_left _ (List.mem_append_left _ (List.mem_append_left _ (List.mem_append_left _ (List.mem_append_left _ (List.mem_append_left _ (List.mem_append_left _ (List.mem_append_left _ (List.mem_append_left _ (List.mem_append_right _ (List.mem_append_right _ (List.mem_append_right _ (List.mem_append_right _ (List.mem_append_right _ (List.mem_append_right _ (List.mem_append_left _ h)))))))))))))))))))))
theorem mwr8 : ∀ w ∈ wsL_law0_r8, w ∈ wsL_law := fun _ h => List.mem_append_left _ (List.mem_append_left _ (List.mem_append_left _ (List.mem_append_left _ (List.mem_append_left _ (List.mem_append_left _ (List.mem_append_left _ (List.mem_append_left _ (List.mem_append_left _ (List.mem_append_left _ (List.mem_append_left _ (List.mem_append_left _ (List.mem_append_left _ (List.mem_append_left _ (List.mem_append_left _ (List.mem_append_right _ (List.mem_append_right _ (List.mem_append_right _ (List.mem_append_right _ (List.mem_append_right _ (List.mem_append_right _ (List.mem_append_right _ (List.mem_append_left _ h))))))))))))))))))))))
theorem mwr9 : ∀ w ∈ wsL_law0_r9, w ∈ wsL_law := fun _ h => List.mem_append_left _ (List.mem_append_left _ (List.mem_append_left _ (List.mem_append_left _ (List.mem_append_left _ (List.mem_append_left _ (List.mem_append_left _ (List.mem_append_left _ (List.mem_append_left _ (List.mem_append_left _ (List.mem_append_left _ (List.mem_append_left _ (List.mem_append_left _ (List.mem_append_left _ (List.mem_append_left _ (List.mem_append_right _ (List.mem_append_right _ (List.mem_append_right _ (List.mem_append_right _ (List.mem_append_right _ (List.mem_append_right _ (List.mem_append_right _ (List.mem_append_right _ (List.mem_append_left _ h)))))))))))))))))))))))
theorem mwr10 : ∀ w ∈ wsL_law0_r10, w ∈ wsL_law := fun _ h => List.mem_append_left _ (List.mem_append_left _ (List.mem_append_left _ (List.mem_append_left _ (List.mem_append_left _ (List.mem_append_left _ (List.mem_append_left _ (List.mem_append_left _ (List.mem_append_left _ (List.mem_append_left _ (List.mem_append_left _ (List.mem_append_left _ (List.mem_append_left _ (List.mem_append_left _ (List.mem_append_left _ (List.mem_append_right _ (List.mem_append_right _ (List.mem_append_right _ (List.mem_append_right _ (List.mem_append_right _ (List.mem_append_right _ (List.mem_append_right _ (List.mem_append_right _ (List.mem_append_right _ (List.mem_append_left _ h))))))))))))))))))))))))
theorem mwr11 : ∀ w ∈ wsL_law0_r11, w ∈ wsL_law := fun _ h => List.mem_append_left _ (List.mem_append_left _ (List.mem_append_left _ (List.mem_append_left _ (List.mem_append_left _ (List.mem_append_left _ (List.mem_append_left _ (List.mem_append_left _ (List.mem_append_left _ (List.mem_append_left _ (List.mem_append_left _ (List.mem_append_left _ (List.mem_append_left _ (List.mem_append_left _ (List.mem_append_left _ (List.mem_append_right _ (List.mem_append_right _ (List.mem_append_right _ (List.mem_append_right _ (List.mem_append_right _ (List.mem_append_right _ (List.mem_append_right _ (List.mem_append_right _ (List.mem_append_right _ (List.mem_append_right _ (List.mem_append_left _ h)))))))))))))))))))))))))
theorem mwr12 : ∀ w ∈ wsL_law0_r12, w ∈ wsL_law := fun _ h => List.mem_append_left _ (List.mem_append_left _ (List.mem_append_left _ (List.mem_append_left _ (List.mem_append_left _ (List.mem_append_left _ (List.mem_append_left _ (List.mem_append_left _ (List.mem_append_left _ (List.mem_append_left _ (List.mem_append_left _ (List.mem_append_left _ (List.mem_append_left _ (List.mem_append_left _ (List.mem_append_left _ (List.mem_append_right _ (List.mem_append_right _ (List.mem_append_right _ (List.mem_append_right _ (List.mem_append_right _ (List.mem_append_right _ (List.mem_append_right _ (List.mem_append_right _ (List.mem_append_right _ (List.mem_append_right _ (List.mem_append_right _ (List.mem_append_left _ h))))))))))))))))))))))))))
theorem mwr13 : ∀ w ∈ wsL_law0_r13, w ∈ wsL_law := fun _ h => List.mem_append_left _ (List.mem_append_left _ (List.mem_append_left _ (List.mem_append_left _ (List.mem_append_left _ (List.mem_append_left _ (List.mem_append_left _ (List.mem_append_left _ (List.mem_append_left _ (List.mem_append_left _ (List.mem_append_left _ (List.mem_append_left _ (List.mem_append_left _ (List.mem_append_left _ (List.mem_append_left _ (List.mem_append_right _ (List.mem_append_right _ (List.mem_append_right _ (List.mem_append_right _ (List.mem_append_right _ (List.mem_append_right _ (List.mem_append_right _ (List.mem_append_right _ (List.mem_append_right _ (List.mem_append_right _ (List.mem_append_right _ (List.mem_append_right _ (List.mem_append_left _ h)))))))))))))))))))))))))))
theorem mwr14 : ∀ w ∈ wsL_law0_r14, w ∈ wsL_law := fun _ h => List.mem_append_left _ (List.mem_append_left _ (List.mem_append_left _ (List.mem_append_left _ (List.mem_append_left _ (List.mem_append_left _ (List.mem_append_left _ (List.mem_append_left _ (List.mem_append_left _ (List.mem_append_left _ (List.mem_append_left _ (List.mem_append_left _ (List.mem_append_left _ (List.mem_append_left _ (List.mem_append_left _ (List.mem_append_right _ (List.mem_append_right _ (List.mem_append_right _ (List.mem_append_right _ (List.mem_append_right _ (List.mem_append_right _ (List.mem_append_right _ (List.mem_append_right _ (List.mem_append_right _ (List.mem_append_right _ (List.mem_append_right _ (List.mem_append_right _ (List.mem_append_right _ (List.mem_append_left _ h))))))))))))))))))))))))))))
theorem mwr15 : ∀ w ∈ wsL_law0_r15, w ∈ wsL_law := fun _ h => List.mem_append_left _ (List.mem_append_left _ (List.mem_append_left _ (List.mem_append_left _ (List.mem_append_left _ (List.mem_append_left _ (List.mem_append_left _ (List.mem_append_left _ (List.mem_append_left _ (List.mem_append_left _ (List.mem_append_left _ (List.mem_append_left _ (List.mem_append_left _ (List.mem_append_left _ (List.mem_append_left _ (List.mem_append_right _ (List.mem_append_right _ (List.mem_append_right _ (List.mem_append_right _ (List.mem_append_right _ (List.mem_append_right _ (List.mem_append_right _ (List.mem_append_right _ (List.mem_append_right _ (List.mem_append_right _ (List.mem_append_right _ (List.mem_append_right _ (List.mem_append_right _ (List.mem_append_right _ (List.mem_append_left _ h)))))))))))))))))))))))))))))
theorem mwr16 : ∀ w ∈ wsL_law0_r16, w ∈ wsL_law := fun _ h => List.mem_append_left _ (List.mem_append_left _ (List.mem_append_left _ (List.mem_append_left _ (List.mem_append_left _ (List.mem_append_left _ (List.mem_append_left _ (List.mem_append_left _ (List.mem_append_left _ (List.mem_append_left _ (List.mem_append_left _ (List.mem_append_left _ (List.mem_append_left _ (List.mem_append_left _ (List.mem_append_left _ (List.mem_append_right _ (List.mem_append_right _ (List.mem_append_right _ (List.mem_append_right _ (List.mem_append_right _ (List.mem_append_right _ (List.mem_append_right _ (List.mem_append_right _ (List.mem_append_right _ (List.mem_append_right _ (List.mem_append_right _ (List.mem_append_right _ (List.mem_append_right _ (List.mem_append_right _ (List.mem_append_right _ (List.mem_append_left _ h))))))))))))))))))))))))))))))
theorem mwr17 : ∀ w ∈ wsL_law0_r17, w ∈ wsL_law := fun _ h => List.mem_append_left _ (List.mem_append_left _ (List.mem_append_left _ (List.mem_append_left _ (List.mem_append_left _ (List.mem_append_left _ (List.mem_append_left _ (List.mem_append_left _ (List.mem_append_left _ (List.mem_append_left _ (List.mem_append_left _ (List.mem_append_left _ (List.mem_append_left _ (List.mem_append_left _ (List.mem_append_left _ (List.mem_append_right _ (List.mem_append_right _ (List.mem_append_right _ (List.mem_append_right _ (List.mem_append_right _ (List.mem_append_right _ (List.mem_append_right _ (List.mem_append_right _ (List.mem_append_right _ (List.mem_append_right _ (List.mem_append_right _ (List.mem_append_right _ (List.mem_append_right _ (List.mem_append_right _ (List.mem_append_right _ (List.mem_append_right _ (List.mem_append_left _ h)))))))))))))))))))))))))))))))
theorem mwr18 : ∀ w ∈ wsL_law0_r18, w ∈ wsL_law := fun _ h => List.mem_append_left _ (List.mem_append_left _ (List.mem_append_left _ (List.mem_append_left _ (List.mem_append_left _ (List.mem_append_left _ (List.mem_append_left _ (List.mem_append_left _ (List.mem_append_left _ (List.mem_append_left _ (List.mem_append_left _ (List.mem_append_left _ (List.mem_append_left _ (List.mem_append_left _ (List.mem_append_left _ (List.mem_append_right _ (List.mem_append_right _ (List.mem_append_right _ (List.mem_append_right _ (List.mem_append_right _ (List.mem_append_right _ (List.mem_append_right _ (List.mem_append_right _ (List.mem_append_right _ (List.mem_append_right _ (List.mem_append_right _ (List.mem_append_right _ (List.mem_append_right _ (List.mem_append_right _ (List.mem_append_right _ (List.mem_append_right _ (List.mem_append_right _ (List.mem_append_left _ h))))))))))))))))))))))))))))))))
theorem mwr19 : ∀ w ∈ wsL_law0_r19, w ∈ wsL_law := fun _ h => List.mem_append_left _ (List.mem_append_left _ (List.mem_append_left _ (List.mem_append_left _ (List.mem_append_left _ (List.mem_append_left _ (List.mem_append_left _ (List.mem_append_left _ (List.mem_append_left _ (List.mem_append_left _ (List.mem_append_left _ (List.mem_append_left _ (List.mem_append_left _ (List.mem_append_left _ (List.mem_append_left _ (List.mem_append_right _ (List.mem_append_right _ (List.mem_append_right _ (List.mem_append_right _ (List.mem_append_right _ (List.mem_append_right _ (List.mem_append_right _ (List.mem_append_right _ (List.mem_append_right _ (List.mem_append_right _ (List.mem_append_right _ (List.mem_append_right _ (List.mem_append_right _ (List.mem_append_right _ (List.mem_append_right _ (List.mem_append_right _ (List.mem_append_right _ (List.mem_append_right _ (List.mem_append_left _ h)))))))))))))))))))))))))))))))))
theorem mwr20 : ∀ w ∈ wsL_law0_r20, w ∈ wsL_law := fun _ h => List.mem_append_left _ (List.mem_append_left _ (List.mem_append_left _ (List.mem_append_left _ (List.mem_append_left _ (List.mem_append_left _ (List.mem_append_left _ (List.mem_append_left _ (List.mem_append_left _ (List.mem_append_left _ (List.mem_append_left _ (List.mem_append_left _ (List.mem_append_left _ (List.mem_append_left _ (List.mem_append_left _ (List.mem_append_right _ (List.mem_append_right _ (List.mem_append_right _ (List.mem_append_right _ (List.mem_append_right _ (List.mem_append_right _ (List.mem_append_right _ (List.mem_append_right _ (List.mem_append_right _ (List.mem_append_right _ (List.mem_append_right _ (List.mem_append_right _ (List.mem_append_right _ (List.mem_append_right _ (List.mem_append_right _ (List.mem_append_right _ (List.mem_append_right _ (List.mem_append_right _ (List.mem_append_right _ (List.mem_append_left _ h))))))))))))))))))))))))))))))))))
theorem mwr21 : ∀ w ∈ wsL_law0_r21, w ∈ wsL_law := fun _ h => List.mem_append_left _ (List.mem_append_left _ (List.mem_append_left _ (List.mem_append_left _ (List.mem_append_left _ (List.mem_append_left _ (List.mem_append_left _ (List.mem_append_left _ (List.mem_append_left _ (List.mem_append_left _ (List.mem_append_left _ (List.mem_append_left _ (List.mem_append_left _ (List.mem_append_left _ (List.mem_append_left _ (List.mem_append_right _ (List.mem_append_right _ (List.mem_append_right _ (List.mem_append_right _ (List.mem_append_right _ (List.mem_append_right _ (List.mem_append_right _ (List.mem_append_right _ (List.mem_append_right _ (List.mem_append_right _ (List.mem_append_right _ (List.mem_append_right _ (List.mem_append_right _ (List.mem_append_right _ (List.mem_append_right _ (List.mem_append_right _ (List.mem_append_right _ (List.mem_append_right _ (List.mem_append_right _ (List.mem_append_right _ (List.mem_append_left _ h)))))))))))))))))))))))))))))))))))
theorem mwr22 : ∀ w ∈ wsL_law0_r22, w ∈ wsL_law := fun _ h => List.mem_append_left _ (List.mem_append_left _ (List.mem_append_left _ (List.mem_append_left _ (List.mem_append_left _ (List.mem_append_left _ (List.mem_append_left _ (List.mem_append_left _ (List.mem_append_left _ (List.mem_append_left _ (List.mem_append_left _ (List.mem_append_left _ (List.mem_append_left _ (List.mem_append_left _ (List.mem_append_left _ (List.mem_append_right _ (List.mem_append_right _ (List.mem_append_right _ (List.mem_append_right _ (List.mem_append_right _ (List.mem_append_right _ (List.mem_append_right _ (List.mem_append_right _ (List.mem_append_right _ (List.mem_append_right _ (List.mem_append_right _ (List.mem_append_right _ (List.mem_append_right _ (List.mem_append_right _ (List.mem_append_right _ (List.mem_append_right _ (List.mem_append_right _ (List.mem_append_right _ (List.mem_append_right _ (List.mem_append_right _ (List.mem_append_right _ (List.mem_append_left _ h))))))))))))))))))))))))))))))))))))
theorem mwr23 : ∀ w ∈ wsL_law0_r23, w ∈ wsL_law := fun _ h => List.mem_append_left _ (List.mem_append_left _ (List.mem_append_left _ (List.mem_append_left _ (List.mem_append_left _ (List.mem_append_left _ (List.mem_append_left _ (List.mem_append_left _ (List.mem_append_left _ (List.mem_append_left _ (List.mem_append_left _ (List.mem_append_left _ (List.mem_append_left _ (List.mem_append_left _ (List.mem_append_left _ (List.mem_append_right _ (List.mem_append_right _ (List.mem_append_right _ (List.mem_append_right _ (List.mem_append_right _ (List.mem_append_right _ (List.mem_append_right _ (List.mem_append_right _ (List.mem_append_right _ (List.mem_append_right _ (List.mem_append_right _ (List.mem_append_right _ (List.mem_append_right _ (List.mem_append_right _ (List.mem_append_right _ (List.mem_append_right _ (List.mem_append_right _ (List.mem_append_right _ (List.mem_append_right _ (List.mem_append_right _ (List.mem_append_right _ (List.mem_append_right _ (List.mem_append_left _ h)))))))))))))))))))))))))))))))))))))
theorem mwr24 : ∀ w ∈ wsL_law0_r24, w ∈ wsL_law := fun _ h => List.mem_append_left _ (List.mem_append_left _ (List.mem_append_left _ (List.mem_append_left _ (List.mem_append_left _ (List.mem_append_left _ (List.mem_append_left _ (List.mem_append_left _ (List.mem_append_left _ (List.mem_append_left _ (List.mem_append_left _ (List.mem_append_left _ (List.mem_append_left _ (List.mem_append_left _ (List.mem_append_left _ (List.mem_append_right _ (List.mem_append_right _ (List.mem_append_right _ (List.mem_append_right _ (List.mem_append_right _ (List.mem_append_right _ (List.mem_append_right _ (List.mem_append_right _ (List.mem_append_right _ (List.mem_append_right _ (List.mem_append_right _ (List.mem_append_right _ (List.mem_append_right _ (List.mem_append_right _ (List.mem_append_right _ (List.mem_append_right _ (List.mem_append_right _ (List.mem_append_right _ (List.mem_append_right _ (List.mem_append_right _ (List.mem_append_right _ (List.mem_append_right _ (List.mem_append_right _ (List.mem_append_left _ h))))))))))))))))))))))))))))))))))))))
theorem mwr25 : ∀ w ∈ wsL_law0_r25, w ∈ wsL_law := fun _ h => List.mem_append_left _ (List.mem_append_left _ (List.mem_append_left _ (List.mem_append_left _ (List.mem_append_left _ (List.mem_append_left _ (List.mem_append_left _ (List.mem_append_left _ (List.mem_append_left _ (List.mem_append_left _ (List.mem_append_left _ (List.mem_append_left _ (List.mem_append_left _ (List.mem_append_left _ (List.mem_append_left _ (List.mem_append_right _ (List.mem_append_right _ (List.mem_append_right _ (List.mem_append_right _ (List.mem_append_right _ (List.mem_append_right _ (List.mem_append_right _ (List.mem_append_right _ (List.mem_append_right _ (List.mem_append_right _ (List.mem_append_right _ (List.mem_append_right _ (List.mem_append_right _ (List.mem_append_right _ (List.mem_append_right _ (List.mem_append_right _ (List.mem_append_right _ (List.mem_append_right _ (List.mem_append_right _ (List.mem_append_right _ (List.mem_append_right _ (List.mem_append_right _ (List.mem_append_right _ (List.mem_append_right _ (List.mem_append_left _ h)))))))))))))))))))))))))))))))))))))))
theorem mwr26 : ∀ w ∈ wsL_law0_r26, w ∈ wsL_law := fun _ h => List.mem_append_left _ (List.mem_append_left _ (List.mem_append_left _ (List.mem_append_left _ (List.mem_append_left _ (List.mem_append_left _ (List.mem_append_left _ (List.mem_append_left _ (List.mem_append_left _ (List.mem_append_left _ (List.mem_append_left _ (List.mem_append_left _ (List.mem_append_left _ (List.mem_append_left _ (List.mem_append_left _ (List.mem_append_right _ (List.mem_append_right _ (List.mem_append_right _ (List.mem_append_right _ (List.mem_append_right _ (List.mem_append_right _ (List.mem_append_right _ (List.mem_append_right _ (List.mem_append_right _ (List.mem_append_right _ (List.mem_append_right _ (List.mem_append_right _ (List.mem_append_right _ (List.mem_append_right _ (List.mem_append_right _ (List.mem_append_right _ (List.mem_append_right _ (List.mem_append_right _ (List.mem_append_right _ (List.mem_append_right _ (List.mem_append_right _ (List.mem_append_right _ (List.mem_append_right _ (List.mem_append_right _ (List.mem_append_right _ (List.mem_append_left _ h))))))))))))))))))))))))))))))))))))))))
theorem mwr27 : ∀ w ∈ wsL_law0_r27, w ∈ wsL_law := fun _ h => List.mem_append_left _ (List.mem_append_left _ (List.mem_append_left _ (List.mem_append_left _ (List.mem_append_left _ (List.mem_append_left _ (List.mem_append_left _ (List.mem_append_left _ (List.mem_append_left _ (List.mem_append_left _ (List.mem_append_left _ (List.mem_append_left _ (List.mem_append_left _ (List.mem_append_left _ (List.mem_append_left _ (List.mem_append_right _ (List.mem_append_right _ (List.mem_append_right _ (List.mem_append_right _ (List.mem_append_right _ (List.mem_append_right _ (List.mem_append_right _ (List.mem_append_right _ (List.mem_append_right _ (List.mem_append_right _ (List.mem_append_right _ (List.mem_append_right _ (List.mem_append_right _ (List.mem_append_right _ (List.mem_append_right _ (List.mem_append_right _ (List.mem_append_right _ (List.mem_append_right _ (List.mem_append_right _ (List.mem_append_right _ (List.mem_append_right _ (List.mem_append_right _ (List.mem_append_right _ (List.mem_append_right _ (List.mem_append_right _ (List.mem_append_right _ (List.mem_append_left _ h)))))))))))))))))))))))))))))))))))))))))
theorem mwr28 : ∀ w ∈ wsL_law0_r28, w ∈ wsL_law := fun _ h => List.mem_append_left _ (List.mem_append_left _ (List.mem_append_left _ (List.mem_append_left _ (List.mem_append_left _ (List.mem_append_left _ (List.mem_append_left _ (List.mem_append_left _ (List.mem_append_left _ (List.mem_append_left _ (List.mem_append_left _ (List.mem_append_left _ (List.mem_append_left _ (List.mem_append_left _ (List.mem_append_left _ (List.mem_append_right _ (List.mem_append_right _ (List.mem_append_right _ (List.mem_append_right _ (List.mem_append_right _ (List.mem_append_right _ (List.mem_append_right _ (List.mem_append_right _ (List.mem_append_right _ (List.mem_append_right _ (List.mem_append_right _ (List.mem_append_right _ (List.mem_append_right _ (List.mem_append_right _ (List.mem_append_right _ (List.mem_append_right _ (List.mem_append_right _ (List.mem_append_right _ (List.mem_append_right _ (List.mem_append_right _ (List.mem_append_right _ (List.mem_append_right _ (List.mem_append_right _ (List.mem_append_right _ (List.mem_append_right _ (List.mem_append_right _ (List.mem_append_right _ (List.mem_append_left _ h))))))))))))))))))))))))))))))))))))))))))
theorem mwr29 : ∀ w ∈ wsL_law0_r29, w ∈ wsL_law := fun _ h => List.mem_append_left _ (List.mem_append_left _ (List.mem_append_left _ (List.mem_append_left _ (List.mem_append_left _ (List.mem_append_left _ (List.mem_append_left _ (List.mem_append_left _ (List.mem_append_left _ (List.mem_append_left _ (List.mem_append_left _ (List.mem_append_left _ (List.mem_append_left _ (List.mem_append_left _ (List.mem_append_left _ (List.mem_append_right _ (List.mem_append_right _ (List.mem_append_right _ (List.mem_append_right _ (List.mem_append_right _ (List.mem_append_right _ (List.mem_append_right _ (List.mem_append_right _ (List.mem_append_right _ (List.mem_append_right _ (List.mem_append_right _ (List.mem_append_right _ (List.mem_append_right _ (List.mem_append_right _ (List.mem_append_right _ (List.mem_append_right _ (List.mem_append_right _ (List.mem_append_right _ (List.mem_append_right _ (List.mem_append_right _ (List.mem_append_right _ (List.mem_append_right _ (List.mem_append_right _ (List.mem_append_right _ (List.mem_append_right _ (List.mem_append_right _ (List.mem_append_right _ (List.mem_append_right _ (List.mem_append_left _ h)))))))))))))))))))))))))))))))))))))))))))
theorem mwr30 : ∀ w ∈ wsL_law0_r30, w ∈ wsL_law := fun _ h => List.mem_append_left _ (List.mem_append_left _ (List.mem_append_left _ (List.mem_append_left _ (List.mem_append_left _ (List.mem_append_left _ (List.mem_append_left _ (List.mem_append_left _ (List.mem_append_left _ (List.mem_append_left _ (List.mem_append_left _ (List.mem_append_left _ (List.mem_append_left _ (List.mem_append_left _ (List.mem_append_left _ (List.mem_append_right _ (List.mem_append_right _ (List.mem_append_right _ (List.mem_append_right _ (List.mem_append_right _ (List.mem_append_right _ (List.mem_append_right _ (List.mem_append_right _ (List.mem_append_right _ (List.mem_append_right _ (List.mem_append_right _ (List.mem_append_right _ (List.mem_append_right _ (List.mem_append_right _ (List.mem_append_right _ (List.mem_append_right _ (List.mem_append_right _ (List.mem_append_right _ (List.mem_append_right _ (List.mem_append_right _ (List.mem_append_right _ (List.mem_append_right _ (List.mem_append_right _ (List.mem_append_right _ (List.mem_append_right _ (List.mem_append_right _ (List.mem_append_right _ (List.mem_append_right _ (List.mem_append_right _ (List.mem_append_left _ h))))))))))))))))))))))))))))))))))))))))))))
theorem mwr31 : ∀ w ∈ wsL_law0_r31, w ∈ wsL_law := fun _ h => List.mem_append_left _ (List.mem_append_left _ (List.mem_append_left _ (List.mem_append_left _ (List.mem_append_left _ (List.mem_append_left _ (List.mem_append_left _ (List.mem_append_left _ (List.mem_append_left _ (List.mem_append_left _ (List.mem_append_left _ (List.mem_append_left _ (List.mem_append_left _ (List.mem_append_left _ (List.mem_append_left _ (List.mem_append_right _ (List.mem_append_right _ (List.mem_append_right _ (List.mem_append_right _ (List.mem_append_right _ (List.mem_append_right _ (List.mem_append_right _ (List.mem_append_right _ (List.mem_append_right _ (List.mem_append_right _ (List.mem_append_right _ (List.mem_append_right _ (List.mem_append_right _ (List.mem_append_right _ (List.mem_append_right _ (List.mem_append_right _ (List.mem_append_right _ (List.mem_append_right _ (List.mem_append_right _ (List.mem_append_right _ (List.mem_append_right _ (List.mem_append_right _ (List.mem_append_right _ (List.mem_append_right _ (List.mem_append_right _ (List.mem_append_right _ (List.mem_append_right _ (List.mem_append_right _ (List.mem_append_right _ (List.mem_append_right _ (List.mem_append_left _ h)))))))))))))))))))))))))))))))))))))))))))))
theorem mwr32 : ∀ w ∈ wsL_law0_r32, w ∈ wsL_law := fun _ h => List.mem_append_left _ (List.mem_append_left _ (List.mem_append_left _ (List.mem_append_left _ (List.mem_append_left _ (List.mem_append_left _ (List.mem_append_left _ (List.mem_append_left _ (List.mem_append_left _ (List.mem_append_left _ (List.mem_append_left _ (List.mem_append_left _ (List.mem_append_left _ (List.mem_append_left _ (List.mem_append_left _ (List.mem_append_right _ (List.mem_append_right _ (List.mem_append_right _ (List.mem_append_right _ (List.mem_append_right _ (List.mem_append_right _ (List.mem_append_right _ (List.mem_append_right _ (List.mem_append_right _ (List.mem_append_right _ (List.mem_append_right _ (List.mem_append_right _ (List.mem_append_right _ (List.mem_append_right _ (List.mem_append_right _ (List.mem_append_right _ (List.mem_append_right _ (List.mem_append_right _ (List.mem_append_right _ (List.mem_append_right _ (List.mem_append_right _ (List.mem_append_right _ (List.mem_append_right _ (List.mem_append_right _ (List.mem_append_right _ (List.mem_append_right _ (List.mem_append_right _ (List.mem_append_right _ (List.mem_append_right _ (List.mem_append_right _ (List.mem_append_right _ (List.mem_append_left _ h))))))))))))))))))))))))))))))))))))))))))))))
theorem mwr33 : ∀ w ∈ wsL_law0_r33, w ∈ wsL_law := fun _ h => List.mem_append_left _ (List.mem_append_left _ (List.mem_append_left _ (List.mem_append_left _ (List.mem_append_left _ (List.mem_append_left _ (List.mem_append_left _ (List.mem_append_left _ (List.mem_append_left _ (List.mem_append_left _ (List.mem_append_left _ (List.mem_append_left _ (List.mem_append_left _ (List.mem_append_left _ (List.mem_append_left _ (List.mem_append_right _ (List.mem_append_right _ (List.mem_append_right _ (List.mem_append_right _ (List.mem_append_right _ (List.mem_append_right _ (List.mem_append_right _ (List.mem_append_right _ (List.mem_append_right _ (List.mem_append_right _ (List.mem_append_right _ (List.mem_append_right _ (List.mem_append_right _ (List.mem_append_right _ (List.mem_append_right _ (List.mem_append_right _ (List.mem_append_right _ (List.mem_append_right _ (List.mem_append_right _ (List.mem_append_right _ (List.mem_append_right _ (List.mem_append_right _ (List.mem_append_right _ (List.mem_append_right _ (List.mem_append_right _ (List.mem_append_right _ (List.mem_append_right _ (List.mem_append_right _ (List.mem_append_right _ (List.mem_append_right _ (List.mem_append_right _ (List.mem_append_right _ (List.mem_append_left _ h)))))))))))))))))))))))))))))))))))))))))))))))
theorem mwr34 : ∀ w ∈ wsL_law0_r34, w ∈ wsL_law := fun _ h => List.mem_append_left _ (List.mem_append_left _ (List.mem_append_left _ (List.mem_append_left _ (List.mem_append_left _ (List.mem_append_left _ (List.mem_append_left _ (List.mem_append_left _ (List.mem_append_left _ (List.mem_append_left _ (List.mem_append_left _ (List.mem_append_left _ (List.mem_append_left _ (List.mem_append_left _ (List.mem_append_left _ (List.mem_append_right _ (List.mem_append_right _ (List.mem_append_right _ (List.mem_append_right _ (List.mem_append_right _ (List.mem_append_right _ (List.mem_append_right _ (List.mem_append_right _ (List.mem_append_right _ (List.mem_append_right _ (List.mem_append_right _ (List.mem_append_right _ (List.mem_append_right _ (List.mem_append_right _ (List.mem_append_right _ (List.mem_append_right _ (List.mem_append_right _ (List.mem_append_right _ (List.mem_append_right _ (List.mem_append_right _ (List.mem_append_right _ (List.mem_append_right _ (List.mem_append_right _ (List.mem_append_right _ (List.mem_append_right _ (List.mem_append_right _ (List.mem_append_right _ (List.mem_append_right _ (List.mem_append_right _ (List.mem_append_right _ (List.mem_append_right _ (List.mem_append_right _ (List.mem_append_right _ (List.mem_append_left _ h))))))))))))))))))))))))))))))))))))))))))))))))
theorem mwr35 : ∀ w ∈ wsL_law0_r35, w ∈ wsL_law := fun _ h => List.mem_append_left _ (List.mem_append_left _ (List.mem_append_left _ (List.mem_append_left _ (List.mem_append_left _ (List.mem_append_left _ (List.mem_append_left _ (List.mem_append_left _ (List.mem_append_left _ (List.mem_append_left _ (List.mem_append_left _ (List.mem_append_left _ (List.mem_append_left _ (List.mem_append_left _ (List.mem_append_left _ (List.mem_append_right _ (List.mem_append_right _ (List.mem_append_right _ (List.mem_append_right _ (List.mem_append_right _ (List.mem_append_right _ (List.mem_append_right _ (List.mem_append_right _ (List.mem_append_right _ (List.mem_append_right _ (List.mem_append_right _ (List.mem_append_right _ (List.mem_append_right _ (List.mem_append_right _ (List.mem_append_right _ (List.mem_append_right _ (List.mem_append_right _ (List.mem_append_right _ (List.mem_append_right _ (List.mem_append_right _ (List.mem_append_right _ (List.mem_append_right _ (List.mem_append_right _ (List.mem_append_right _ (List.mem_append_right _ (List.mem_append_right _ (List.mem_append_right _ (List.mem_append_right _ (List.mem_append_right _ (List.mem_append_right _ (List.mem_append_right _ (List.mem_append_right _ (List.mem_append_right _ (List.mem_append_right _ (List.mem_append_left _ h)))))))))))))))))))))))))))))))))))))))))))))))))
theorem mwr36 : ∀ w ∈ wsL_law0_r36, w ∈ wsL_law := fun _ h => List.mem_append_left _ (List.mem_append_left _ (List.mem_append_left _ (List.mem_append_left _ (List.mem_append_left _ (List.mem_append_left _ (List.mem_append_left _ (List.mem_append_left _ (List.mem_append_left _ (List.mem_append_left _ (List.mem_append_left _ (List.mem_append_left _ (List.mem_append_left _ (List.mem_append_left _ (List.mem_append_left _ (List.mem_append_right _ (List.mem_append_right _ (List.mem_append_right _ (List.mem_append_right _ (List.mem_append_right _ (List.mem_append_right _ (List.mem_append_right _ (List.mem_append_right _ (List.mem_append_right _ (List.mem_append_right _ (List.mem_append_right _ (List.mem_append_right _ (List.mem_append_right _ (List.mem_append_right _ (List.mem_append_right _ (List.mem_append_right _ (List.mem_append_right _ (List.mem_append_right _ (List.mem_append_right _ (List.mem_append_right _ (List.mem_append_right _ (List.mem_append_right _ (List.mem_append_right _ (List.mem_append_right _ (List.mem_append_right _ (List.mem_append_right _ (List.mem_append_right _ (List.mem_append_right _ (List.mem_append_right _ (List.mem_append_right _ (List.mem_append_right _ (List.mem_append_right _ (List.mem_append_right _ (List.mem_append_right _ (List.mem_append_right _ (List.mem_append_left _ h))))))))))))))))))))))))))))))))))))))))))))))))))
theorem mwr37 : ∀ w ∈ wsL_law0_r37, w ∈ wsL_law := fun _ h => List.mem_append_left _ (List.mem_append_left _ (List.mem_append_left _ (List.mem_append_left _ (List.mem_append_left _ (List.mem_append_left _ (List.mem_append_left _ (List.mem_append_left _ (List.mem_append_left _ (List.mem_append_left _ (List.mem_append_left _ (List.mem_append_left _ (List.mem_append_left _ (List.mem_append_left _ (List.mem_append_left _ (List.mem_append_right _ (List.mem_append_right _ (List.mem_append_right _ (List.mem_append_right _ (List.mem_append_right _ (List.mem_append_right _ (List.mem_append_right _ (List.mem_append_right _ (List.mem_append_right _ (List.mem_append_right _ (List.mem_append_right _ (List.mem_append_right _ (List.mem_append_right _ (List.mem_append_right _ (List.mem_append_right _ (List.mem_append_right _ (List.mem_append_right _ (List.mem_append_right _ (List.mem_append_right _ (List.mem_append_right _ (List.mem_append_right _ (List.mem_append_right _ (List.mem_append_right _ (List.mem_append_right _ (List.mem_append_right _ (List.mem_append_right _ (List.mem_append_right _ (List.mem_append_right _ (List.mem_append_right _ (List.mem_append_right _ (List.mem_append_right _ (List.mem_append_right _ (List.mem_append_right _ (List.mem_append_right _ (List.mem_append_right _ (List.mem_append_right _ (List.mem_append_left _ h)))))))))))))))))))))))))))))))))))))))))))))))))))
theorem mwr38 : ∀ w ∈ wsL_law0_r38, w ∈ wsL_law := fun _ h => List.mem_append_left _ (List.mem_append_left _ (List.mem_append_left _ (List.mem_append_left _ (List.mem_append_left _ (List.mem_append_left _ (List.mem_append_left _ (List.mem_append_left _ (List.mem_append_left _ (List.mem_append_left _ (List.mem_append_left _ (List.mem_append_left _ (List.mem_append_left _ (List.mem_append_left _ (List.mem_append_left _ (List.mem_append_right _ (List.mem_append_right _ (List.mem_append_right _ (List.mem_append_right _ (List.mem_append_right _ (List.mem_append_right _ (List.mem_append_right _ (List.mem_append_right _ (List.mem_append_right _ (List.mem_append_right _ (List.mem_append_right _ (List.mem_append_right _ (List.mem_append_right _ (List.mem_append_right _ (List.mem_append_right _ (List.mem_append_right _ (List.mem_append_right _ (List.mem_append_right _ (List.mem_append_right _ (List.mem_append_right _ (List.mem_append_right _ (List.mem_append_right _ (List.mem_append_right _ (List.mem_append_right _ (List.mem_append_right _ (List.mem_append_right _ (List.mem_append_right _ (List.mem_append_right _ (List.mem_append_right _ (List.mem_append_right _ (List.mem_append_right _ (List.mem_append_right _ (List.mem_append_right _ (List.mem_append_right _ (List.mem_append_right _ (List.mem_append_right _ (List.mem_append_right _ (List.mem_append_left _ h))))))))))))))))))))))))))))))))))))))))))))))))))))
theorem mwr39 : ∀ w ∈ wsL_law0_r39, w ∈ wsL_law := fun _ h => List.mem_append_left _ (List.mem_append_left _ (List.mem_append_left _ (List.mem_append_left _ (List.mem_append_left _ (List.mem_append_left _ (List.mem_append_left _ (List.mem_append_left _ (List.mem_append_left _ (List.mem_append_left _ (List.mem_append_left _ (List.mem_append_left _ (List.mem_append_left _ (List.mem_append_left _ (List.mem_append_left _ (List.mem_append_right _ (List.mem_append_right _ (List.mem_append_right _ (List.mem_append_right _ (List.mem_append_right _ (List.mem_append_right _ (List.mem_append_right _ (List.mem_append_right _ (List.mem_append_right _ (List.mem_append_right _ (List.mem_append_right _ (List.mem_append_right _ (List.mem_append_right _ (List.mem_append_right _ (List.mem_append_right _ (List.mem_append_right _ (List.mem_append_right _ (List.mem_append_right _ (List.mem_append_right _ (List.mem_append_right _ (List.mem_append_right _ (List.mem_append_right _ (List.mem_append_right _ (List.mem_append_right _ (List.mem_append_right _ (List.mem_append_right _ (List.mem_append_right _ (List.mem_append_right _ (List.mem_append_right _ (List.mem_append_right _ (List.mem_append_right _ (List.mem_append_right _ (List.mem_append_right _ (List.mem_append_right _ (List.mem_append_right _ (List.mem_append_right _ (List.mem_append_right _ (List.mem_append_right _ (List.mem_append_left _ h)))))))))))))))))))))))))))))))))))))))))))))))))))))
theorem mwr40 : ∀ w ∈ wsL_law0_r40, w ∈ wsL_law := fun _ h => List.mem_append_left _ (List.mem_append_left _ (List.mem_append_left _ (List.mem_append_left _ (List.mem_append_left _ (List.mem_append_left _ (List.mem_append_left _ (List.mem_append_left _ (List.mem_append_left _ (List.mem_append_left _ (List.mem_append_left _ (List.mem_append_left _ (List.mem_append_left _ (List.mem_append_left _ (List.mem_append_left _ (List.mem_append_right _ (List.mem_append_right _ (List.mem_append_right _ (List.mem_append_right _ (List.mem_append_right _ (List.mem_append_right _ (List.mem_append_right _ (List.mem_append_right _ (List.mem_append_right _ (List.mem_append_right _ (List.mem_append_right _ (List.mem_append_right _ (List.mem_append_right _ (List.mem_append_right _ (List.mem_append_right _ (List.mem_append_right _ (List.mem_append_right _ (List.mem_append_right _ (List.mem_append_right _ (List.mem_append_right _ (List.mem_append_right _ (List.mem_append_right _ (List.mem_append_right _ (List.mem_append_right _ (List.mem_append_right _ (List.mem_append_right _ (List.mem_append_right _ (List.mem_append_right _ (List.mem_append_right _ (List.mem_append_right _ (List.mem_append_right _ (List.mem_append_right _ (List.mem_append_right _ (List.mem_append_right _ (List.mem_append_right _ (List.mem_append_right _ (List.mem_append_right _ (List.mem_append_right _ (List.mem_append_right _ (List.mem_append_left _ h))))))))))))))))))))))))))))))))))))))))))))))))))))))
theorem mwr41 : ∀ w ∈ wsL_law0_r41, w ∈ wsL_law := fun _ h => List.mem_append_left _ (List.mem_append_left _ (List.mem_append_left _ (List.mem_append_left _ (List.mem_append_left _ (List.mem_append_left _ (List.mem_append_left _ (List.mem_append_left _ (List.mem_append_left _ (List.mem_append_left _ (List.mem_append_left _ (List.mem_append_left _ (List.mem_append_left _ (List.mem_append_left _ (List.mem_append_left _ (List.mem_append_right _ (List.mem_append_right _ (List.mem_append_right _ (List.mem_append_right _ (List.mem_append_right _ (List.mem_append_right _ (List.mem_append_right _ (List.mem_append_right _ (List.mem_append_right _ (List.mem_append_right _ (List.mem_append_right _ (List.mem_append_right _ (List.mem_append_right _ (List.mem_append_right _ (List.mem_append_right _ (List.mem_append_right _ (List.mem_append_right _ (List.mem_append_right _ (List.mem_append_right _ (List.mem_append_right _ (List.mem_append_right _ (List.mem_append_right _ (List.mem_append_right _ (List.mem_append_right _ (List.mem_append_right _ (List.mem_append_right _ (List.mem_append_right _ (List.mem_append_right _ (List.mem_append_right _ (List.mem_append_right _ (List.mem_append_right _ (List.mem_append_right _ (List.mem_append_right _ (List.mem_append_right _ (List.mem_append_right _ (List.mem_append_right _ (List.mem_append_right _ (List.mem_append_right _ (List.mem_append_right _ (List.mem_append_right _ (List.mem_append_left _ h)))))))))))))))))))))))))))))))))))))))))))))))))))))))
theorem mwr42 : ∀ w ∈ wsL_law0_r42, w ∈ wsL_law := fun _ h => List.mem_append_left _ (List.mem_append_left _ (List.mem_append_left _ (List.mem_append_left _ (List.mem_append_left _ (List.mem_append_left _ (List.mem_append_left _ (List.mem_append_left _ (List.mem_append_left _ (List.mem_append_left _ (List.mem_append_left _ (List.mem_append_left _ (List.mem_append_left _ (List.mem_append_left _ (List.mem_append_left _ (List.mem_append_right _ (List.mem_append_right _ (List.mem_append_right _ (List.mem_append_right _ (List.mem_append_right _ (List.mem_append_right _ (List.mem_append_right _ (List.mem_append_right _ (List.mem_append_right _ (List.mem_append_right _ (List.mem_append_right _ (List.mem_append_right _ (List.mem_append_right _ (List.mem_append_right _ (List.mem_append_right _ (List.mem_append_right _ (List.mem_append_right _ (List.mem_append_right _ (List.mem_append_right _ (List.mem_append_right _ (List.mem_append_right _ (List.mem_append_right _ (List.mem_append_right _ (List.mem_append_right _ (List.mem_append_right _ (List.mem_append_right _ (List.mem_append_right _ (List.mem_append_right _ (List.mem_append_right _ (List.mem_append_right _ (List.mem_append_right _ (List.mem_append_right _ (List.mem_append_right _ (List.mem_append_right _ (List.mem_append_right _ (List.mem_append_right _ (List.mem_append_right _ (List.mem_append_right _ (List.mem_append_right _ (List.mem_append_right _ (List.mem_append_right _ (List.mem_append_left _ h))))))))))))))))))))))))))))))))))))))))))))))))))))))))
theorem mwr43 : ∀ w ∈ wsL_law0_r43, w ∈ wsL_law := fun _ h => List.mem_append_left _ (List.mem_append_left _ (List.mem_append_left _ (List.mem_append_left _ (List.mem_append_left _ (List.mem_append_left _ (List.mem_append_left _ (List.mem_append_left _ (List.mem_append_left _ (List.mem_append_left _ (List.mem_append_left _ (List.mem_append_left _ (List.mem_append_left _ (List.mem_append_left _ (List.mem_append_left _ (List.mem_append_right _ (List.mem_append_right _ (List.mem_append_right _ (List.mem_append_right _ (List.mem_append_right _ (List.mem_append_right _ (List.mem_append_right _ (List.mem_append_right _ (List.mem_append_right _ (List.mem_append_right _ (List.mem_append_right _ (List.mem_append_right _ (List.mem_append_right _ (List.mem_append_right _ (List.mem_append_right _ (List.mem_append_right _ (List.mem_append_right _ (List.mem_append_right _ (List.mem_append_right _ (List.mem_append_right _ (List.mem_append_right _ (List.mem_append_right _ (List.mem_append_right _ (List.mem_append_right _ (List.mem_append_right _ (List.mem_append_right _ (List.mem_append_right _ (List.mem_append_right _ (List.mem_append_right _ (List.mem_append_right _ (List.mem_append_right _ (List.mem_append_right _ (List.mem_append_right _ (List.mem_append_right _ (List.mem_append_right _ (List.mem_append_right _ (List.mem_append_right _ (List.mem_append_right _ (List.mem_append_right _ (List.mem_append_right _ (List.mem_append_right _ (List.mem_append_right _ (h)))))))))))))))))))))))))))))))))))))))))))))))))))))))))
theorem mw0 : Cond.classLink RL 8 RX9 ∈ wsL_law := mwr1 _ (List.mem_of_getElem? (i := 0) rfl)
theorem mw1 : Cond.instantiable RX9 9 ∈ wsL_law := mwr1 _ (List.mem_of_getElem? (i := 1) rfl)
theorem mw2 : Cond.initialized RX9 ∈ wsL_law := mwr1 _ (List.mem_of_getElem? (i := 2) rfl)
theorem mw3 : Cond.classLink RL 79 RX10 ∈ wsL_law := mwr1 _ (List.mem_of_getElem? (i := 3) rfl)
theorem mw4 : Cond.instantiable RX10 18 ∈ wsL_law := mwr1 _ (List.mem_of_getElem? (i := 4) rfl)
theorem mw5 : Cond.initialized RX10 ∈ wsL_law := mwr1 _ (List.mem_of_getElem? (i := 5) rfl)
theorem mw6 : Cond.arrayClass .long ∈ wsL_law := mwr1 _ (List.mem_of_getElem? (i := 6) rfl)
theorem mw7 : Cond.methodLink RL 78 yX9_init ∈ wsL_law := mwr1 _ (List.mem_of_getElem? (i := 7) rfl)
theorem mw8 : Cond.instanceMethod yX9_init ∈ wsL_law := mwr1 _ (List.mem_of_getElem? (i := 8) rfl)
theorem mw9 : Cond.code yX9_init cX9_init 1 none ∈ wsL_law := mwr1 _ (List.mem_of_getElem? (i := 9) rfl)
theorem mw10 : Cond.methodLink RX9 1 objectInit ∈ wsL_law := mwr1 _ (List.mem_of_getElem? (i := 10) rfl)
theorem mw11 : Cond.instanceMethod objectInit ∈ wsL_law := mwr1 _ (List.mem_of_getElem? (i := 11) rfl)
theorem mw12 : Cond.code objectInit ⟨#[0xb1]⟩ 1 none ∈ wsL_law := mwr1 _ (List.mem_of_getElem? (i := 12) rfl)
theorem mw13 : Cond.classLink RX9 7 RX6 ∈ wsL_law := mwr1 _ (List.mem_of_getElem? (i := 13) rfl)
theorem mw14 : Cond.instantiable RX6 6 ∈ wsL_law := mwr1 _ (List.mem_of_getElem? (i := 14) rfl)
theorem mw15 : Cond.initialized RX6 ∈ wsL_law := mwr1 _ (List.mem_of_getElem? (i := 15) rfl)
theorem mw16 : Cond.fieldLink RX9 10 "PolarPlanimeter" "now" "LPolarPlanimeter$State;" ∈ wsL_law := mwr1 _ (List.mem_of_getElem? (i := 16) rfl)
theorem mw17 : Cond.fieldLink RX9 16 "PolarPlanimeter" "trial" "LPolarPlanimeter$State;" ∈ wsL_law := mwr1 _ (List.mem_of_getElem? (i := 17) rfl)
theorem mw18 : Cond.classLink RX9 19 RX2 ∈ wsL_law := mwr1 _ (List.mem_of_getElem? (i := 18) rfl)
theorem mw19 : Cond.instantiable RX2 2 ∈ wsL_law := mwr1 _ (List.mem_of_getElem? (i := 19) rfl)
theorem mw20 : Cond.initialized RX2 ∈ wsL_law := mwr1 _ (List.mem_of_getElem? (i := 20) rfl)
theorem mw21 : Cond.fieldLink RX9 22 "PolarPlanimeter" "history" "LPolarPlanimeter$History;" ∈ wsL_law := mwr1 _ (List.mem_of_getElem? (i := 21) rfl)
theorem mw22 : Cond.classLink RX9 26 RX1 ∈ wsL_law := mwr1 _ (List.mem_of_getElem? (i := 22) rfl)
theorem mw23 : Cond.instantiable RX1 4 ∈ wsL_law := mwr1 _ (List.mem_of_getElem? (i := 23) rfl)
theorem mw24 : Cond.initialized RX1 ∈ wsL_law := mwr2 _ (List.mem_of_getElem? (i := 0) rfl)
theorem mw25 : Cond.fieldLink RX9 29 "PolarPlanimeter" "follower" "LPolarPlanimeter$Follower;" ∈ wsL_law := mwr2 _ (List.mem_of_getElem? (i := 1) rfl)
theorem mw26 : Cond.classLink RX9 33 RX3 ∈ wsL_law := mwr2 _ (List.mem_of_getElem? (i := 2) rfl)
theorem mw27 : Cond.instantiable RX3 6 ∈ wsL_law := mwr2 _ (List.mem_of_getElem? (i := 3) rfl)
theorem mw28 : Cond.initialized RX3 ∈ wsL_law := mwr2 _ (List.mem_of_getElem? (i := 4) rfl)
theorem mw29 : Cond.fieldLink RX9 36 "PolarPlanimeter" "mean" "LPolarPlanimeter$Mean;" ∈ wsL_law := mwr2 _ (List.mem_of_getElem? (i := 5) rfl)
theorem mw30 : Cond.classLink RX9 40 RX7 ∈ wsL_law := mwr2 _ (List.mem_of_getElem? (i := 6) rfl)
theorem mw31 : Cond.instantiable RX7 7 ∈ wsL_law := mwr2 _ (List.mem_of_getElem? (i := 7) rfl)
theorem mw32 : Cond.initialized RX7 ∈ wsL_law := mwr2 _ (List.mem_of_getElem? (i := 8) rfl)
theorem mw33 : Cond.fieldLink RX9 43 "PolarPlanimeter" "reader" "LPolarPlanimeter$TextReader;" ∈ wsL_law := mwr2 _ (List.mem_of_getElem? (i := 9) rfl)
theorem mw34 : Cond.arrayClass .int ∈ wsL_law := mwr2 _ (List.mem_of_getElem? (i := 10) rfl)
theorem mw35 : Cond.fieldLink RX9 47 "PolarPlanimeter" "buffer" "[I" ∈ wsL_law := mwr2 _ (List.mem_of_getElem? (i := 11) rfl)
theorem mw36 : Cond.instanceMethod yX6_init ∈ wsL_law := mwr2 _ (List.mem_of_getElem? (i := 12) rfl)
theorem mw37 : Cond.code yX6_init cX6_init 1 none ∈ wsL_law := mwr2 _ (List.mem_of_getElem? (i := 13) rfl)
theorem mw38 : Cond.methodLink RX6 3 objectInit ∈ wsL_law := mwr2 _ (List.mem_of_getElem? (i := 14) rfl)
theorem mw39 : Cond.fieldLink RX6 9 "PolarPlanimeter$State" "tolerance" "I" ∈ wsL_law := mwr2 _ (List.mem_of_getElem? (i := 15) rfl)
theorem mw40 : Cond.fieldLink RX6 15 "PolarPlanimeter$State" "settings" "[I" ∈ wsL_law := mwr2 _ (List.mem_of_getElem? (i := 16) rfl)
theorem mw41 : Cond.classLink RX6 19 RX4 ∈ wsL_law := mwr2 _ (List.mem_of_getElem? (i := 17) rfl)
theorem mw42 : Cond.instantiable RX4 4 ∈ wsL_law := mwr2 _ (List.mem_of_getElem? (i := 18) rfl)
theorem mw43 : Cond.initialized RX4 ∈ wsL_law := mwr2 _ (List.mem_of_getElem? (i := 19) rfl)
theorem mw44 : Cond.fieldLink RX6 22 "PolarPlanimeter$State" "outline" "LPolarPlanimeter$Outline;" ∈ wsL_law := mwr2 _ (List.mem_of_getElem? (i := 20) rfl)
theorem mw45 : Cond.classLink RX6 26 RX5 ∈ wsL_law := mwr2 _ (List.mem_of_getElem? (i := 21) rfl)
theorem mw46 : Cond.instantiable RX5 4 ∈ wsL_law := mwr2 _ (List.mem_of_getElem? (i := 22) rfl)
theorem mw47 : Cond.initialized RX5 ∈ wsL_law := mwr2 _ (List.mem_of_getElem? (i := 23) rfl)
theorem mw48 : Cond.fieldLink RX6 29 "PolarPlanimeter$State" "runs" "LPolarPlanimeter$Runs;" ∈ wsL_law := mwr3 _ (List.mem_of_getElem? (i := 0) rfl)
theorem mw49 : Cond.methodLink RX6 36 arraycopyName ∈ wsL_law := mwr3 _ (List.mem_of_getElem? (i := 1) rfl)
theorem mw50 : Cond.native arraycopyName ∈ wsL_law := mwr3 _ (List.mem_of_getElem? (i := 2) rfl)
theorem mw51 : Cond.static arraycopyName ∈ wsL_law := mwr3 _ (List.mem_of_getElem? (i := 3) rfl)
theorem mw52 : Cond.initialized "java/lang/System" ∈ wsL_law := mwr3 _ (List.mem_of_getElem? (i := 4) rfl)
theorem mw53 : Cond.instanceMethod yX4_init ∈ wsL_law := mwr3 _ (List.mem_of_getElem? (i := 5) rfl)
theorem mw54 : Cond.code yX4_init cX4_init 1 none ∈ wsL_law := mwr3 _ (List.mem_of_getElem? (i := 6) rfl)
theorem mw55 : Cond.methodLink RX4 3 objectInit ∈ wsL_law := mwr3 _ (List.mem_of_getElem? (i := 7) rfl)
theorem mw56 : Cond.fieldLink RX4 9 "PolarPlanimeter$Outline" "xs" "[I" ∈ wsL_law := mwr3 _ (List.mem_of_getElem? (i := 8) rfl)
theorem mw57 : Cond.fieldLink RX4 15 "PolarPlanimeter$Outline" "ys" "[I" ∈ wsL_law := mwr3 _ (List.mem_of_getElem? (i := 9) rfl)
theorem mw58 : Cond.fieldLink RX4 18 "PolarPlanimeter$Outline" "slips" "[I" ∈ wsL_law := mwr3 _ (List.mem_of_getElem? (i := 10) rfl)
theorem mw59 : Cond.instanceMethod yX5_init ∈ wsL_law := mwr3 _ (List.mem_of_getElem? (i := 11) rfl)
theorem mw60 : Cond.code yX5_init cX5_init 1 none ∈ wsL_law := mwr3 _ (List.mem_of_getElem? (i := 12) rfl)
theorem mw61 : Cond.methodLink RX5 3 objectInit ∈ wsL_law := mwr3 _ (List.mem_of_getElem? (i := 13) rfl)
theorem mw62 : Cond.fieldLink RX5 9 "PolarPlanimeter$Runs" "corners" "[I" ∈ wsL_law := mwr3 _ (List.mem_of_getElem? (i := 14) rfl)
theorem mw63 : Cond.arrayClass .boolean ∈ wsL_law := mwr3 _ (List.mem_of_getElem? (i := 15) rfl)
theorem mw64 : Cond.fieldLink RX5 15 "PolarPlanimeter$Runs" "backward" "[Z" ∈ wsL_law := mwr3 _ (List.mem_of_getElem? (i := 16) rfl)
theorem mw65 : Cond.fieldLink RX5 19 "PolarPlanimeter$Runs" "sums" "[J" ∈ wsL_law := mwr3 _ (List.mem_of_getElem? (i := 17) rfl)
theorem mw66 : Cond.instanceMethod yX2_init ∈ wsL_law := mwr3 _ (List.mem_of_getElem? (i := 18) rfl)
theorem mw67 : Cond.code yX2_init cX2_init 2 none ∈ wsL_law := mwr3 _ (List.mem_of_getElem? (i := 19) rfl)
theorem mw68 : Cond.methodLink RX2 3 objectInit ∈ wsL_law := mwr3 _ (List.mem_of_getElem? (i := 20) rfl)
theorem mw69 : Cond.classLink RX2 9 RX6 ∈ wsL_law := mwr3 _ (List.mem_of_getElem? (i := 21) rfl)
theorem mw70 : Cond.fieldLink RX2 11 "PolarPlanimeter$History" "states" "[LPolarPlanimeter$State;" ∈ wsL_law := mwr3 _ (List.mem_of_getElem? (i := 22) rfl)
theorem mw71 : Cond.instanceMethod yX1_init ∈ wsL_law := mwr3 _ (List.mem_of_getElem? (i := 23) rfl)
theorem mw72 : Cond.code yX1_init cX1_init 1 none ∈ wsL_law := mwr4 _ (List.mem_of_getElem? (i := 0) rfl)
theorem mw73 : Cond.methodLink RX1 3 objectInit ∈ wsL_law := mwr4 _ (List.mem_of_getElem? (i := 1) rfl)
theorem mw74 : Cond.classLink RX1 9 RX0 ∈ wsL_law := mwr4 _ (List.mem_of_getElem? (i := 2) rfl)
theorem mw75 : Cond.instantiable RX0 9 ∈ wsL_law := mwr4 _ (List.mem_of_getElem? (i := 3) rfl)
theorem mw76 : Cond.initialized RX0 ∈ wsL_law := mwr4 _ (List.mem_of_getElem? (i := 4) rfl)
theorem mw77 : Cond.fieldLink RX1 12 "PolarPlanimeter$Follower" "arm" "LPolarPlanimeter$Arm;" ∈ wsL_law := mwr4 _ (List.mem_of_getElem? (i := 5) rfl)
theorem mw78 : Cond.classLink RX1 18 RX8 ∈ wsL_law := mwr4 _ (List.mem_of_getElem? (i := 6) rfl)
theorem mw79 : Cond.instantiable RX8 3 ∈ wsL_law := mwr4 _ (List.mem_of_getElem? (i := 7) rfl)
theorem mw80 : Cond.initialized RX8 ∈ wsL_law := mwr4 _ (List.mem_of_getElem? (i := 8) rfl)
theorem mw81 : Cond.fieldLink RX1 21 "PolarPlanimeter$Follower" "wheel" "LPolarPlanimeter$Wheel;" ∈ wsL_law := mwr4 _ (List.mem_of_getElem? (i := 9) rfl)
theorem mw82 : Cond.instanceMethod yX0_init ∈ wsL_law := mwr4 _ (List.mem_of_getElem? (i := 10) rfl)
theorem mw83 : Cond.code yX0_init cX0_init 1 none ∈ wsL_law := mwr4 _ (List.mem_of_getElem? (i := 11) rfl)
theorem mw84 : Cond.methodLink RX0 3 objectInit ∈ wsL_law := mwr4 _ (List.mem_of_getElem? (i := 12) rfl)
theorem mw85 : Cond.instanceMethod yX8_init ∈ wsL_law := mwr4 _ (List.mem_of_getElem? (i := 13) rfl)
theorem mw86 : Cond.code yX8_init cX8_init 1 none ∈ wsL_law := mwr4 _ (List.mem_of_getElem? (i := 14) rfl)
theorem mw87 : Cond.methodLink RX8 3 objectInit ∈ wsL_law := mwr4 _ (List.mem_of_getElem? (i := 15) rfl)
theorem mw88 : Cond.instanceMethod yX3_init ∈ wsL_law := mwr4 _ (List.mem_of_getElem? (i := 16) rfl)
theorem mw89 : Cond.code yX3_init cX3_init 1 none ∈ wsL_law := mwr4 _ (List.mem_of_getElem? (i := 17) rfl)
theorem mw90 : Cond.methodLink RX3 3 objectInit ∈ wsL_law := mwr4 _ (List.mem_of_getElem? (i := 18) rfl)
theorem mw91 : Cond.fieldLink RX3 9 "PolarPlanimeter$Mean" "areas" "[J" ∈ wsL_law := mwr4 _ (List.mem_of_getElem? (i := 19) rfl)
theorem mw92 : Cond.fieldLink RX3 15 "PolarPlanimeter$Mean" "ascending" "[J" ∈ wsL_law := mwr4 _ (List.mem_of_getElem? (i := 20) rfl)
theorem mw93 : Cond.fieldLink RX3 18 "PolarPlanimeter$Mean" "leftOut" "[Z" ∈ wsL_law := mwr4 _ (List.mem_of_getElem? (i := 21) rfl)
theorem mw94 : Cond.instanceMethod yX7_init ∈ wsL_law := mwr4 _ (List.mem_of_getElem? (i := 22) rfl)
theorem mw95 : Cond.code yX7_init cX7_init 1 none ∈ wsL_law := mwr4 _ (List.mem_of_getElem? (i := 23) rfl)
theorem mw96 : Cond.methodLink RX7 3 objectInit ∈ wsL_law := mwr5 _ (List.mem_of_getElem? (i := 0) rfl)
theorem mw97 : Cond.fieldLink RX7 9 "PolarPlanimeter$TextReader" "xs" "[I" ∈ wsL_law := mwr5 _ (List.mem_of_getElem? (i := 1) rfl)
theorem mw98 : Cond.fieldLink RX7 15 "PolarPlanimeter$TextReader" "ys" "[I" ∈ wsL_law := mwr5 _ (List.mem_of_getElem? (i := 2) rfl)
theorem mw99 : Cond.methodLink RL 81 yX10_init ∈ wsL_law := mwr5 _ (List.mem_of_getElem? (i := 3) rfl)
theorem mw100 : Cond.instanceMethod yX10_init ∈ wsL_law := mwr5 _ (List.mem_of_getElem? (i := 4) rfl)
theorem mw101 : Cond.code yX10_init cX10_init 1 none ∈ wsL_law := mwr5 _ (List.mem_of_getElem? (i := 5) rfl)
theorem mw102 : Cond.methodLink RX10 1 objectInit ∈ wsL_law := mwr5 _ (List.mem_of_getElem? (i := 6) rfl)
theorem mw103 : Cond.fieldLink RX10 7 "PolarPlanimeterModel" "z" "[J" ∈ wsL_law := mwr5 _ (List.mem_of_getElem? (i := 7) rfl)
theorem mw104 : Cond.fieldLink RX10 13 "PolarPlanimeterModel" "saved" "[J" ∈ wsL_law := mwr5 _ (List.mem_of_getElem? (i := 8) rfl)
theorem mw105 : Cond.fieldLink RX10 16 "PolarPlanimeterModel" "text" "[I" ∈ wsL_law := mwr5 _ (List.mem_of_getElem? (i := 9) rfl)
theorem mw106 : Cond.fieldLink RX10 20 "PolarPlanimeterModel" "isOut" "[Z" ∈ wsL_law := mwr5 _ (List.mem_of_getElem? (i := 10) rfl)
theorem mw107 : Cond.fieldLink RX10 24 "PolarPlanimeterModel" "read" "[I" ∈ wsL_law := mwr5 _ (List.mem_of_getElem? (i := 11) rfl)
theorem mw108 : Cond.constantLong RX10 27 (1200) ∈ wsL_law := mwr5 _ (List.mem_of_getElem? (i := 12) rfl)
theorem mw109 : Cond.constantLong RX10 29 (1000) ∈ wsL_law := mwr5 _ (List.mem_of_getElem? (i := 13) rfl)
theorem mw110 : Cond.constantLong RX10 31 (50) ∈ wsL_law := mwr5 _ (List.mem_of_getElem? (i := 14) rfl)
theorem mw111 : Cond.constantLong RX10 33 (200) ∈ wsL_law := mwr5 _ (List.mem_of_getElem? (i := 15) rfl)
theorem mw112 : Cond.methodLink RL 82 yL_setAnchor ∈ wsL_law := mwr5 _ (List.mem_of_getElem? (i := 16) rfl)
theorem mw113 : Cond.static yL_setAnchor ∈ wsL_law := mwr5 _ (List.mem_of_getElem? (i := 17) rfl)
theorem mw114 : Cond.initialized RL ∈ wsL_law := mwr5 _ (List.mem_of_getElem? (i := 18) rfl)
theorem mw115 : Cond.codeWith yL_setAnchor cL_setAnchor 5 (some .int) [(0, 10, 13, 13)] ∈ wsL_law := mwr5 _ (List.mem_of_getElem? (i := 19) rfl)
theorem mw116 : Cond.classLink RL 13 "java/lang/IllegalArgumentException" ∈ wsL_law := mwr5 _ (List.mem_of_getElem? (i := 20) rfl)
theorem mw117 : Cond.methodLink RL 7 yX9_setAnchor ∈ wsL_law := mwr5 _ (List.mem_of_getElem? (i := 21) rfl)
theorem mw118 : Cond.instanceMethod yX9_setAnchor ∈ wsL_law := mwr5 _ (List.mem_of_getElem? (i := 22) rfl)
theorem mw119 : Cond.selects RX9 yX9_setAnchor yX9_setAnchor ∈ wsL_law := mwr5 _ (List.mem_of_getElem? (i := 23) rfl)
theorem mw120 : Cond.code yX9_setAnchor cX9_setAnchor 3 (some .int) ∈ wsL_law := mwr6 _ (List.mem_of_getElem? (i := 0) rfl)
theorem mw121 : Cond.classLink RX9 55 "java/lang/IllegalArgumentException" ∈ wsL_law := mwr6 _ (List.mem_of_getElem? (i := 1) rfl)
theorem mw122 : Cond.initialized "java/lang/IllegalArgumentException" ∈ wsL_law := mwr6 _ (List.mem_of_getElem? (i := 2) rfl)
theorem mw123 : Cond.methodLink RX9 51 yX9_isWithin ∈ wsL_law := mwr6 _ (List.mem_of_getElem? (i := 3) rfl)
theorem mw124 : Cond.static yX9_isWithin ∈ wsL_law := mwr6 _ (List.mem_of_getElem? (i := 4) rfl)
theorem mw125 : Cond.code yX9_isWithin cX9_isWithin 2 (some .boolean) ∈ wsL_law := mwr6 _ (List.mem_of_getElem? (i := 5) rfl)
theorem mw126 : Cond.instanceMethod yX2_save ∈ wsL_law := mwr6 _ (List.mem_of_getElem? (i := 6) rfl)
theorem mw127 : Cond.selects RX2 yX2_save yX2_save ∈ wsL_law := mwr6 _ (List.mem_of_getElem? (i := 7) rfl)
theorem mw128 : Cond.code yX2_save cX2_save 2 none ∈ wsL_law := mwr6 _ (List.mem_of_getElem? (i := 8) rfl)
theorem mw129 : Cond.fieldLink RX2 18 "PolarPlanimeter$History" "saved" "I" ∈ wsL_law := mwr6 _ (List.mem_of_getElem? (i := 9) rfl)
theorem mw130 : Cond.methodLink RX2 22 yX2_dropOldest ∈ wsL_law := mwr6 _ (List.mem_of_getElem? (i := 10) rfl)
theorem mw131 : Cond.instanceMethod yX2_dropOldest ∈ wsL_law := mwr6 _ (List.mem_of_getElem? (i := 11) rfl)
theorem mw132 : Cond.selects RX2 yX2_dropOldest yX2_dropOldest ∈ wsL_law := mwr6 _ (List.mem_of_getElem? (i := 12) rfl)
theorem mw133 : Cond.code yX2_dropOldest cX2_dropOldest 3 none ∈ wsL_law := mwr6 _ (List.mem_of_getElem? (i := 13) rfl)
theorem mw134 : Cond.instanceMethod yX6_copy ∈ wsL_law := mwr6 _ (List.mem_of_getElem? (i := 14) rfl)
theorem mw135 : Cond.selects RX6 yX6_copy yX6_copy ∈ wsL_law := mwr6 _ (List.mem_of_getElem? (i := 15) rfl)
theorem mw136 : Cond.code yX6_copy cX6_copy 2 none ∈ wsL_law := mwr6 _ (List.mem_of_getElem? (i := 16) rfl)
theorem mw137 : Cond.fieldLink RX6 42 "PolarPlanimeter$State" "anchorX" "I" ∈ wsL_law := mwr6 _ (List.mem_of_getElem? (i := 17) rfl)
theorem mw138 : Cond.fieldLink RX6 45 "PolarPlanimeter$State" "anchorY" "I" ∈ wsL_law := mwr6 _ (List.mem_of_getElem? (i := 18) rfl)
theorem mw139 : Cond.instanceMethod yX4_copy ∈ wsL_law := mwr6 _ (List.mem_of_getElem? (i := 19) rfl)
theorem mw140 : Cond.selects RX4 yX4_copy yX4_copy ∈ wsL_law := mwr6 _ (List.mem_of_getElem? (i := 20) rfl)
theorem mw141 : Cond.code yX4_copy cX4_copy 2 none ∈ wsL_law := mwr6 _ (List.mem_of_getElem? (i := 21) rfl)
theorem mw142 : Cond.fieldLink RX4 21 "PolarPlanimeter$Outline" "corners" "I" ∈ wsL_law := mwr6 _ (List.mem_of_getElem? (i := 22) rfl)
theorem mw143 : Cond.methodLink RX4 25 arraycopyName ∈ wsL_law := mwr6 _ (List.mem_of_getElem? (i := 23) rfl)
theorem mw144 : Cond.instanceMethod yX5_copy ∈ wsL_law := mwr7 _ (List.mem_of_getElem? (i := 0) rfl)
theorem mw145 : Cond.selects RX5 yX5_copy yX5_copy ∈ wsL_law := mwr7 _ (List.mem_of_getElem? (i := 1) rfl)
theorem mw146 : Cond.code yX5_copy cX5_copy 3 none ∈ wsL_law := mwr7 _ (List.mem_of_getElem? (i := 2) rfl)
theorem mw147 : Cond.fieldLink RX5 23 "PolarPlanimeter$Runs" "made" "I" ∈ wsL_law := mwr7 _ (List.mem_of_getElem? (i := 3) rfl)
theorem mw148 : Cond.instanceMethod yX5_clear ∈ wsL_law := mwr7 _ (List.mem_of_getElem? (i := 4) rfl)
theorem mw149 : Cond.selects RX5 yX5_clear yX5_clear ∈ wsL_law := mwr7 _ (List.mem_of_getElem? (i := 5) rfl)
theorem mw150 : Cond.code yX5_clear cX5_clear 2 (some .int) ∈ wsL_law := mwr7 _ (List.mem_of_getElem? (i := 6) rfl)
theorem mw151 : Cond.methodLink RL 87 yX10_setAnchor ∈ wsL_law := mwr7 _ (List.mem_of_getElem? (i := 7) rfl)
theorem mw152 : Cond.instanceMethod yX10_setAnchor ∈ wsL_law := mwr7 _ (List.mem_of_getElem? (i := 8) rfl)
theorem mw153 : Cond.selects RX10 yX10_setAnchor yX10_setAnchor ∈ wsL_law := mwr7 _ (List.mem_of_getElem? (i := 9) rfl)
theorem mw154 : Cond.code yX10_setAnchor cX10_setAnchor 3 (some .int) ∈ wsL_law := mwr7 _ (List.mem_of_getElem? (i := 10) rfl)
theorem mw155 : Cond.constantLong RX10 176 (-2000) ∈ wsL_law := mwr7 _ (List.mem_of_getElem? (i := 11) rfl)
theorem mw156 : Cond.constantLong RX10 178 (2000) ∈ wsL_law := mwr7 _ (List.mem_of_getElem? (i := 12) rfl)
theorem mw157 : Cond.fieldLink RX10 35 "PolarPlanimeterModel" "thrown" "I" ∈ wsL_law := mwr7 _ (List.mem_of_getElem? (i := 13) rfl)
theorem mw158 : Cond.methodLink RX10 43 yX10_within ∈ wsL_law := mwr7 _ (List.mem_of_getElem? (i := 14) rfl)
theorem mw159 : Cond.static yX10_within ∈ wsL_law := mwr7 _ (List.mem_of_getElem? (i := 15) rfl)
theorem mw160 : Cond.code yX10_within cX10_within 6 (some .boolean) ∈ wsL_law := mwr7 _ (List.mem_of_getElem? (i := 16) rfl)
theorem mw161 : Cond.methodLink RX10 180 yX10_save ∈ wsL_law := mwr7 _ (List.mem_of_getElem? (i := 17) rfl)
theorem mw162 : Cond.instanceMethod yX10_save ∈ wsL_law := mwr7 _ (List.mem_of_getElem? (i := 18) rfl)
theorem mw163 : Cond.selects RX10 yX10_save yX10_save ∈ wsL_law := mwr7 _ (List.mem_of_getElem? (i := 19) rfl)
theorem mw164 : Cond.code yX10_save cX10_save 2 none ∈ wsL_law := mwr7 _ (List.mem_of_getElem? (i := 20) rfl)
theorem mw165 : Cond.fieldLink RX10 173 "PolarPlanimeterModel" "saves" "I" ∈ wsL_law := mwr7 _ (List.mem_of_getElem? (i := 21) rfl)
theorem mw166 : Cond.methodLink RX10 183 yX10_dropRuns ∈ wsL_law := mwr7 _ (List.mem_of_getElem? (i := 22) rfl)
theorem mw167 : Cond.instanceMethod yX10_dropRuns ∈ wsL_law := mwr7 _ (List.mem_of_getElem? (i := 23) rfl)
theorem mw168 : Cond.selects RX10 yX10_dropRuns yX10_dropRuns ∈ wsL_law := mwr8 _ (List.mem_of_getElem? (i := 0) rfl)
theorem mw169 : Cond.code yX10_dropRuns cX10_dropRuns 2 (some .int) ∈ wsL_law := mwr8 _ (List.mem_of_getElem? (i := 1) rfl)
theorem mw170 : Cond.methodLink RL 88 yX10_thrown ∈ wsL_law := mwr8 _ (List.mem_of_getElem? (i := 2) rfl)
theorem mw171 : Cond.instanceMethod yX10_thrown ∈ wsL_law := mwr8 _ (List.mem_of_getElem? (i := 3) rfl)
theorem mw172 : Cond.selects RX10 yX10_thrown yX10_thrown ∈ wsL_law := mwr8 _ (List.mem_of_getElem? (i := 4) rfl)
theorem mw173 : Cond.code yX10_thrown cX10_thrown 1 (some .int) ∈ wsL_law := mwr8 _ (List.mem_of_getElem? (i := 5) rfl)
theorem mw174 : Cond.methodLink RL 91 yL_set ∈ wsL_law := mwr8 _ (List.mem_of_getElem? (i := 6) rfl)
theorem mw175 : Cond.static yL_set ∈ wsL_law := mwr8 _ (List.mem_of_getElem? (i := 7) rfl)
theorem mw176 : Cond.codeWith yL_set cL_set 5 (some .int) [(0, 10, 13, 18), (0, 10, 17, 13)] ∈ wsL_law := mwr8 _ (List.mem_of_getElem? (i := 8) rfl)
theorem mw177 : Cond.classLink RL 18 "java/lang/IndexOutOfBoundsException" ∈ wsL_law := mwr8 _ (List.mem_of_getElem? (i := 9) rfl)
theorem mw178 : Cond.methodLink RL 15 yX9_set ∈ wsL_law := mwr8 _ (List.mem_of_getElem? (i := 10) rfl)
theorem mw179 : Cond.instanceMethod yX9_set ∈ wsL_law := mwr8 _ (List.mem_of_getElem? (i := 11) rfl)
theorem mw180 : Cond.selects RX9 yX9_set yX9_set ∈ wsL_law := mwr8 _ (List.mem_of_getElem? (i := 12) rfl)
theorem mw181 : Cond.code yX9_set cX9_set 4 (some .int) ∈ wsL_law := mwr8 _ (List.mem_of_getElem? (i := 13) rfl)
theorem mw182 : Cond.methodLink RX9 83 yX9_checkSetting ∈ wsL_law := mwr8 _ (List.mem_of_getElem? (i := 14) rfl)
theorem mw183 : Cond.static yX9_checkSetting ∈ wsL_law := mwr8 _ (List.mem_of_getElem? (i := 15) rfl)
theorem mw184 : Cond.code yX9_checkSetting cX9_checkSetting 1 none ∈ wsL_law := mwr8 _ (List.mem_of_getElem? (i := 16) rfl)
theorem mw185 : Cond.classLink RX9 109 "java/lang/IndexOutOfBoundsException" ∈ wsL_law := mwr8 _ (List.mem_of_getElem? (i := 17) rfl)
theorem mw186 : Cond.initialized "java/lang/IndexOutOfBoundsException" ∈ wsL_law := mwr8 _ (List.mem_of_getElem? (i := 18) rfl)
theorem mw187 : Cond.methodLink RX9 87 yX9_checkValue ∈ wsL_law := mwr8 _ (List.mem_of_getElem? (i := 19) rfl)
theorem mw188 : Cond.static yX9_checkValue ∈ wsL_law := mwr8 _ (List.mem_of_getElem? (i := 20) rfl)
theorem mw189 : Cond.code yX9_checkValue cX9_checkValue 2 none ∈ wsL_law := mwr8 _ (List.mem_of_getElem? (i := 21) rfl)
theorem mw190 : Cond.fieldLink RX9 237 "PolarPlanimeter" "LEAST" "[I" ∈ wsL_law := mwr8 _ (List.mem_of_getElem? (i := 22) rfl)
theorem mw191 : Cond.fieldLink RX9 240 "PolarPlanimeter" "GREATEST" "[I" ∈ wsL_law := mwr8 _ (List.mem_of_getElem? (i := 23) rfl)
theorem mw192 : Cond.methodLink RL 93 yX10_set ∈ wsL_law := mwr9 _ (List.mem_of_getElem? (i := 0) rfl)
theorem mw193 : Cond.instanceMethod yX10_set ∈ wsL_law := mwr9 _ (List.mem_of_getElem? (i := 1) rfl)
theorem mw194 : Cond.selects RX10 yX10_set yX10_set ∈ wsL_law := mwr9 _ (List.mem_of_getElem? (i := 2) rfl)
theorem mw195 : Cond.code yX10_set cX10_set 4 (some .int) ∈ wsL_law := mwr9 _ (List.mem_of_getElem? (i := 3) rfl)
theorem mw196 : Cond.methodLink RX10 194 yX10_isSetting ∈ wsL_law := mwr9 _ (List.mem_of_getElem? (i := 4) rfl)
theorem mw197 : Cond.static yX10_isSetting ∈ wsL_law := mwr9 _ (List.mem_of_getElem? (i := 5) rfl)
theorem mw198 : Cond.code yX10_isSetting cX10_isSetting 1 (some .boolean) ∈ wsL_law := mwr9 _ (List.mem_of_getElem? (i := 6) rfl)
theorem mw199 : Cond.constantLong RX10 186 (4) ∈ wsL_law := mwr9 _ (List.mem_of_getElem? (i := 7) rfl)
theorem mw200 : Cond.methodLink RX10 197 yX10_isValue ∈ wsL_law := mwr9 _ (List.mem_of_getElem? (i := 8) rfl)
theorem mw201 : Cond.static yX10_isValue ∈ wsL_law := mwr9 _ (List.mem_of_getElem? (i := 9) rfl)
theorem mw202 : Cond.code yX10_isValue cX10_isValue 2 (some .boolean) ∈ wsL_law := mwr9 _ (List.mem_of_getElem? (i := 10) rfl)
theorem mw203 : Cond.constantLong RX10 188 (3000) ∈ wsL_law := mwr9 _ (List.mem_of_getElem? (i := 11) rfl)
theorem mw204 : Cond.constantLong RX10 190 (20) ∈ wsL_law := mwr9 _ (List.mem_of_getElem? (i := 12) rfl)
theorem mw205 : Cond.constantLong RX10 192 (10000) ∈ wsL_law := mwr9 _ (List.mem_of_getElem? (i := 13) rfl)
theorem mw206 : Cond.methodLink RX10 201 yX10_replaced ∈ wsL_law := mwr9 _ (List.mem_of_getElem? (i := 14) rfl)
theorem mw207 : Cond.instanceMethod yX10_replaced ∈ wsL_law := mwr9 _ (List.mem_of_getElem? (i := 15) rfl)
theorem mw208 : Cond.selects RX10 yX10_replaced yX10_replaced ∈ wsL_law := mwr9 _ (List.mem_of_getElem? (i := 16) rfl)
theorem mw209 : Cond.code yX10_replaced cX10_replaced 4 (some .int) ∈ wsL_law := mwr9 _ (List.mem_of_getElem? (i := 17) rfl)
theorem mw210 : Cond.methodLink RL 94 yL_setTolerance ∈ wsL_law := mwr9 _ (List.mem_of_getElem? (i := 18) rfl)
theorem mw211 : Cond.static yL_setTolerance ∈ wsL_law := mwr9 _ (List.mem_of_getElem? (i := 19) rfl)
theorem mw212 : Cond.codeWith yL_setTolerance cL_setTolerance 4 (some .int) [(0, 9, 12, 13)] ∈ wsL_law := mwr9 _ (List.mem_of_getElem? (i := 20) rfl)
theorem mw213 : Cond.methodLink RL 20 yX9_setTolerance ∈ wsL_law := mwr9 _ (List.mem_of_getElem? (i := 21) rfl)
theorem mw214 : Cond.instanceMethod yX9_setTolerance ∈ wsL_law := mwr9 _ (List.mem_of_getElem? (i := 22) rfl)
theorem mw215 : Cond.selects RX9 yX9_setTolerance yX9_setTolerance ∈ wsL_law := mwr9 _ (List.mem_of_getElem? (i := 23) rfl)
theorem mw216 : Cond.code yX9_setTolerance cX9_setTolerance 3 (some .int) ∈ wsL_law := mwr10 _ (List.mem_of_getElem? (i := 0) rfl)
theorem mw217 : Cond.constant RX9 94 (100000) ∈ wsL_law := mwr10 _ (List.mem_of_getElem? (i := 1) rfl)
theorem mw218 : Cond.methodLink RL 97 yX10_setTolerance ∈ wsL_law := mwr10 _ (List.mem_of_getElem? (i := 2) rfl)
theorem mw219 : Cond.instanceMethod yX10_setTolerance ∈ wsL_law := mwr10 _ (List.mem_of_getElem? (i := 3) rfl)
theorem mw220 : Cond.selects RX10 yX10_setTolerance yX10_setTolerance ∈ wsL_law := mwr10 _ (List.mem_of_getElem? (i := 4) rfl)
theorem mw221 : Cond.code yX10_setTolerance cX10_setTolerance 2 (some .int) ∈ wsL_law := mwr10 _ (List.mem_of_getElem? (i := 5) rfl)
theorem mw222 : Cond.constantLong RX10 205 (100000) ∈ wsL_law := mwr10 _ (List.mem_of_getElem? (i := 6) rfl)
theorem mw223 : Cond.methodLink RL 98 yL_insert ∈ wsL_law := mwr10 _ (List.mem_of_getElem? (i := 7) rfl)
theorem mw224 : Cond.static yL_insert ∈ wsL_law := mwr10 _ (List.mem_of_getElem? (i := 8) rfl)
theorem mw225 : Cond.codeWith yL_insert cL_insert 6 (some .int) [(0, 12, 15, 18), (0, 12, 19, 13), (0, 12, 23, 28)] ∈ wsL_law := mwr10 _ (List.mem_of_getElem? (i := 9) rfl)
theorem mw226 : Cond.classLink RL 28 "java/lang/IllegalStateException" ∈ wsL_law := mwr10 _ (List.mem_of_getElem? (i := 10) rfl)
theorem mw227 : Cond.methodLink RL 24 yX9_insert ∈ wsL_law := mwr10 _ (List.mem_of_getElem? (i := 11) rfl)
theorem mw228 : Cond.instanceMethod yX9_insert ∈ wsL_law := mwr10 _ (List.mem_of_getElem? (i := 12) rfl)
theorem mw229 : Cond.selects RX9 yX9_insert yX9_insert ∈ wsL_law := mwr10 _ (List.mem_of_getElem? (i := 13) rfl)
theorem mw230 : Cond.code yX9_insert cX9_insert 4 (some .int) ∈ wsL_law := mwr10 _ (List.mem_of_getElem? (i := 14) rfl)
theorem mw231 : Cond.classLink RX9 117 "java/lang/IllegalStateException" ∈ wsL_law := mwr10 _ (List.mem_of_getElem? (i := 15) rfl)
theorem mw232 : Cond.initialized "java/lang/IllegalStateException" ∈ wsL_law := mwr10 _ (List.mem_of_getElem? (i := 16) rfl)
theorem mw233 : Cond.methodLink RX9 114 yX9_checkPoint ∈ wsL_law := mwr10 _ (List.mem_of_getElem? (i := 17) rfl)
theorem mw234 : Cond.static yX9_checkPoint ∈ wsL_law := mwr10 _ (List.mem_of_getElem? (i := 18) rfl)
theorem mw235 : Cond.code yX9_checkPoint cX9_checkPoint 2 none ∈ wsL_law := mwr10 _ (List.mem_of_getElem? (i := 19) rfl)
theorem mw236 : Cond.instanceMethod yX4_open ∈ wsL_law := mwr10 _ (List.mem_of_getElem? (i := 20) rfl)
theorem mw237 : Cond.selects RX4 yX4_open yX4_open ∈ wsL_law := mwr10 _ (List.mem_of_getElem? (i := 21) rfl)
theorem mw238 : Cond.code yX4_open cX4_open 5 none ∈ wsL_law := mwr10 _ (List.mem_of_getElem? (i := 22) rfl)
theorem mw239 : Cond.methodLink RX4 31 yX4_put ∈ wsL_law := mwr10 _ (List.mem_of_getElem? (i := 23) rfl)
theorem mw240 : Cond.instanceMethod yX4_put ∈ wsL_law := mwr11 _ (List.mem_of_getElem? (i := 0) rfl)
theorem mw241 : Cond.selects RX4 yX4_put yX4_put ∈ wsL_law := mwr11 _ (List.mem_of_getElem? (i := 1) rfl)
theorem mw242 : Cond.code yX4_put cX4_put 5 none ∈ wsL_law := mwr11 _ (List.mem_of_getElem? (i := 2) rfl)
theorem mw243 : Cond.methodLink RL 101 yX10_insert ∈ wsL_law := mwr11 _ (List.mem_of_getElem? (i := 3) rfl)
theorem mw244 : Cond.instanceMethod yX10_insert ∈ wsL_law := mwr11 _ (List.mem_of_getElem? (i := 4) rfl)
theorem mw245 : Cond.selects RX10 yX10_insert yX10_insert ∈ wsL_law := mwr11 _ (List.mem_of_getElem? (i := 5) rfl)
theorem mw246 : Cond.code yX10_insert cX10_insert 5 (some .int) ∈ wsL_law := mwr11 _ (List.mem_of_getElem? (i := 6) rfl)
theorem mw247 : Cond.methodLink RX10 39 yX10_corners ∈ wsL_law := mwr11 _ (List.mem_of_getElem? (i := 7) rfl)
theorem mw248 : Cond.instanceMethod yX10_corners ∈ wsL_law := mwr11 _ (List.mem_of_getElem? (i := 8) rfl)
theorem mw249 : Cond.selects RX10 yX10_corners yX10_corners ∈ wsL_law := mwr11 _ (List.mem_of_getElem? (i := 9) rfl)
theorem mw250 : Cond.code yX10_corners cX10_corners 1 (some .int) ∈ wsL_law := mwr11 _ (List.mem_of_getElem? (i := 10) rfl)
theorem mw251 : Cond.methodLink RX10 209 yX10_isPoint ∈ wsL_law := mwr11 _ (List.mem_of_getElem? (i := 11) rfl)
theorem mw252 : Cond.static yX10_isPoint ∈ wsL_law := mwr11 _ (List.mem_of_getElem? (i := 12) rfl)
theorem mw253 : Cond.code yX10_isPoint cX10_isPoint 2 (some .boolean) ∈ wsL_law := mwr11 _ (List.mem_of_getElem? (i := 13) rfl)
theorem mw254 : Cond.constantLong RX10 207 (-1000) ∈ wsL_law := mwr11 _ (List.mem_of_getElem? (i := 14) rfl)
theorem mw255 : Cond.methodLink RX10 212 yX10_putCorner ∈ wsL_law := mwr11 _ (List.mem_of_getElem? (i := 15) rfl)
theorem mw256 : Cond.instanceMethod yX10_putCorner ∈ wsL_law := mwr11 _ (List.mem_of_getElem? (i := 16) rfl)
theorem mw257 : Cond.selects RX10 yX10_putCorner yX10_putCorner ∈ wsL_law := mwr11 _ (List.mem_of_getElem? (i := 17) rfl)
theorem mw258 : Cond.code yX10_putCorner cX10_putCorner 5 none ∈ wsL_law := mwr11 _ (List.mem_of_getElem? (i := 18) rfl)
theorem mw259 : Cond.methodLink RL 102 yL_move ∈ wsL_law := mwr11 _ (List.mem_of_getElem? (i := 19) rfl)
theorem mw260 : Cond.static yL_move ∈ wsL_law := mwr11 _ (List.mem_of_getElem? (i := 20) rfl)
theorem mw261 : Cond.codeWith yL_move cL_move 6 (some .int) [(0, 12, 15, 18), (0, 12, 19, 13)] ∈ wsL_law := mwr11 _ (List.mem_of_getElem? (i := 21) rfl)
theorem mw262 : Cond.methodLink RL 30 yX9_move ∈ wsL_law := mwr11 _ (List.mem_of_getElem? (i := 22) rfl)
theorem mw263 : Cond.instanceMethod yX9_move ∈ wsL_law := mwr11 _ (List.mem_of_getElem? (i := 23) rfl)
theorem mw264 : Cond.selects RX9 yX9_move yX9_move ∈ wsL_law := mwr12 _ (List.mem_of_getElem? (i := 0) rfl)
theorem mw265 : Cond.code yX9_move cX9_move 4 (some .int) ∈ wsL_law := mwr12 _ (List.mem_of_getElem? (i := 1) rfl)
theorem mw266 : Cond.methodLink RX9 126 yX9_checkCorner ∈ wsL_law := mwr12 _ (List.mem_of_getElem? (i := 2) rfl)
theorem mw267 : Cond.instanceMethod yX9_checkCorner ∈ wsL_law := mwr12 _ (List.mem_of_getElem? (i := 3) rfl)
theorem mw268 : Cond.selects RX9 yX9_checkCorner yX9_checkCorner ∈ wsL_law := mwr12 _ (List.mem_of_getElem? (i := 4) rfl)
theorem mw269 : Cond.code yX9_checkCorner cX9_checkCorner 2 none ∈ wsL_law := mwr12 _ (List.mem_of_getElem? (i := 5) rfl)
theorem mw270 : Cond.methodLink RL 104 yX10_move ∈ wsL_law := mwr12 _ (List.mem_of_getElem? (i := 6) rfl)
theorem mw271 : Cond.instanceMethod yX10_move ∈ wsL_law := mwr12 _ (List.mem_of_getElem? (i := 7) rfl)
theorem mw272 : Cond.selects RX10 yX10_move yX10_move ∈ wsL_law := mwr12 _ (List.mem_of_getElem? (i := 8) rfl)
theorem mw273 : Cond.code yX10_move cX10_move 4 (some .int) ∈ wsL_law := mwr12 _ (List.mem_of_getElem? (i := 9) rfl)
theorem mw274 : Cond.methodLink RX10 216 yX10_isCorner ∈ wsL_law := mwr12 _ (List.mem_of_getElem? (i := 10) rfl)
theorem mw275 : Cond.instanceMethod yX10_isCorner ∈ wsL_law := mwr12 _ (List.mem_of_getElem? (i := 11) rfl)
theorem mw276 : Cond.selects RX10 yX10_isCorner yX10_isCorner ∈ wsL_law := mwr12 _ (List.mem_of_getElem? (i := 12) rfl)
theorem mw277 : Cond.code yX10_isCorner cX10_isCorner 2 (some .boolean) ∈ wsL_law := mwr12 _ (List.mem_of_getElem? (i := 13) rfl)
theorem mw278 : Cond.methodLink RL 105 yL_remove ∈ wsL_law := mwr12 _ (List.mem_of_getElem? (i := 14) rfl)
theorem mw279 : Cond.static yL_remove ∈ wsL_law := mwr12 _ (List.mem_of_getElem? (i := 15) rfl)
theorem mw280 : Cond.codeWith yL_remove cL_remove 4 (some .int) [(0, 9, 12, 18)] ∈ wsL_law := mwr12 _ (List.mem_of_getElem? (i := 16) rfl)
theorem mw281 : Cond.methodLink RL 33 yX9_remove ∈ wsL_law := mwr12 _ (List.mem_of_getElem? (i := 17) rfl)
theorem mw282 : Cond.instanceMethod yX9_remove ∈ wsL_law := mwr12 _ (List.mem_of_getElem? (i := 18) rfl)
theorem mw283 : Cond.selects RX9 yX9_remove yX9_remove ∈ wsL_law := mwr12 _ (List.mem_of_getElem? (i := 19) rfl)
theorem mw284 : Cond.code yX9_remove cX9_remove 2 (some .int) ∈ wsL_law := mwr12 _ (List.mem_of_getElem? (i := 20) rfl)
theorem mw285 : Cond.instanceMethod yX4_close ∈ wsL_law := mwr12 _ (List.mem_of_getElem? (i := 21) rfl)
theorem mw286 : Cond.selects RX4 yX4_close yX4_close ∈ wsL_law := mwr12 _ (List.mem_of_getElem? (i := 22) rfl)
theorem mw287 : Cond.code yX4_close cX4_close 3 none ∈ wsL_law := mwr12 _ (List.mem_of_getElem? (i := 23) rfl)
theorem mw288 : Cond.methodLink RL 107 yX10_remove ∈ wsL_law := mwr13 _ (List.mem_of_getElem? (i := 0) rfl)
theorem mw289 : Cond.instanceMethod yX10_remove ∈ wsL_law := mwr13 _ (List.mem_of_getElem? (i := 1) rfl)
theorem mw290 : Cond.selects RX10 yX10_remove yX10_remove ∈ wsL_law := mwr13 _ (List.mem_of_getElem? (i := 2) rfl)
theorem mw291 : Cond.code yX10_remove cX10_remove 3 (some .int) ∈ wsL_law := mwr13 _ (List.mem_of_getElem? (i := 3) rfl)
theorem mw292 : Cond.methodLink RL 108 yL_setSlip ∈ wsL_law := mwr13 _ (List.mem_of_getElem? (i := 4) rfl)
theorem mw293 : Cond.static yL_setSlip ∈ wsL_law := mwr13 _ (List.mem_of_getElem? (i := 5) rfl)
theorem mw294 : Cond.codeWith yL_setSlip cL_setSlip 5 (some .int) [(0, 10, 13, 18), (0, 10, 17, 13)] ∈ wsL_law := mwr13 _ (List.mem_of_getElem? (i := 6) rfl)
theorem mw295 : Cond.methodLink RL 36 yX9_setSlip ∈ wsL_law := mwr13 _ (List.mem_of_getElem? (i := 7) rfl)
theorem mw296 : Cond.instanceMethod yX9_setSlip ∈ wsL_law := mwr13 _ (List.mem_of_getElem? (i := 8) rfl)
theorem mw297 : Cond.selects RX9 yX9_setSlip yX9_setSlip ∈ wsL_law := mwr13 _ (List.mem_of_getElem? (i := 9) rfl)
theorem mw298 : Cond.code yX9_setSlip cX9_setSlip 4 (some .int) ∈ wsL_law := mwr13 _ (List.mem_of_getElem? (i := 10) rfl)
theorem mw299 : Cond.methodLink RL 110 yX10_setSlip ∈ wsL_law := mwr13 _ (List.mem_of_getElem? (i := 11) rfl)
theorem mw300 : Cond.instanceMethod yX10_setSlip ∈ wsL_law := mwr13 _ (List.mem_of_getElem? (i := 12) rfl)
theorem mw301 : Cond.selects RX10 yX10_setSlip yX10_setSlip ∈ wsL_law := mwr13 _ (List.mem_of_getElem? (i := 13) rfl)
theorem mw302 : Cond.code yX10_setSlip cX10_setSlip 3 (some .int) ∈ wsL_law := mwr13 _ (List.mem_of_getElem? (i := 14) rfl)
theorem mw303 : Cond.constantLong RX10 117 (100) ∈ wsL_law := mwr13 _ (List.mem_of_getElem? (i := 15) rfl)
theorem mw304 : Cond.methodLink RL 111 yL_run ∈ wsL_law := mwr13 _ (List.mem_of_getElem? (i := 16) rfl)
theorem mw305 : Cond.static yL_run ∈ wsL_law := mwr13 _ (List.mem_of_getElem? (i := 17) rfl)
theorem mw306 : Cond.codeWith yL_run cL_run 5 (some .int) [(0, 10, 13, 18), (0, 10, 17, 28)] ∈ wsL_law := mwr13 _ (List.mem_of_getElem? (i := 18) rfl)
theorem mw307 : Cond.methodLink RL 39 yX9_run ∈ wsL_law := mwr13 _ (List.mem_of_getElem? (i := 19) rfl)
theorem mw308 : Cond.instanceMethod yX9_run ∈ wsL_law := mwr13 _ (List.mem_of_getElem? (i := 20) rfl)
theorem mw309 : Cond.selects RX9 yX9_run yX9_run ∈ wsL_law := mwr13 _ (List.mem_of_getElem? (i := 21) rfl)
theorem mw310 : Cond.code yX9_run cX9_run 3 (some .int) ∈ wsL_law := mwr13 _ (List.mem_of_getElem? (i := 22) rfl)
theorem mw311 : Cond.fieldLink RX9 147 "PolarPlanimeter" "latestReason" "I" ∈ wsL_law := mwr13 _ (List.mem_of_getElem? (i := 23) rfl)
theorem mw312 : Cond.methodLink RX9 143 yX9_refusal ∈ wsL_law := mwr14 _ (List.mem_of_getElem? (i := 0) rfl)
theorem mw313 : Cond.instanceMethod yX9_refusal ∈ wsL_law := mwr14 _ (List.mem_of_getElem? (i := 1) rfl)
theorem mw314 : Cond.selects RX9 yX9_refusal yX9_refusal ∈ wsL_law := mwr14 _ (List.mem_of_getElem? (i := 2) rfl)
theorem mw315 : Cond.code yX9_refusal cX9_refusal 2 (some .int) ∈ wsL_law := mwr14 _ (List.mem_of_getElem? (i := 3) rfl)
theorem mw316 : Cond.instanceMethod yX4_touches ∈ wsL_law := mwr14 _ (List.mem_of_getElem? (i := 4) rfl)
theorem mw317 : Cond.selects RX4 yX4_touches yX4_touches ∈ wsL_law := mwr14 _ (List.mem_of_getElem? (i := 5) rfl)
theorem mw318 : Cond.code yX4_touches cX4_touches 5 (some .boolean) ∈ wsL_law := mwr14 _ (List.mem_of_getElem? (i := 6) rfl)
theorem mw319 : Cond.methodLink RX4 35 yX4_next ∈ wsL_law := mwr14 _ (List.mem_of_getElem? (i := 7) rfl)
theorem mw320 : Cond.instanceMethod yX4_next ∈ wsL_law := mwr14 _ (List.mem_of_getElem? (i := 8) rfl)
theorem mw321 : Cond.selects RX4 yX4_next yX4_next ∈ wsL_law := mwr14 _ (List.mem_of_getElem? (i := 9) rfl)
theorem mw322 : Cond.code yX4_next cX4_next 2 (some .int) ∈ wsL_law := mwr14 _ (List.mem_of_getElem? (i := 10) rfl)
theorem mw323 : Cond.methodLink RX4 67 yX4_sideOf ∈ wsL_law := mwr14 _ (List.mem_of_getElem? (i := 11) rfl)
theorem mw324 : Cond.instanceMethod yX4_sideOf ∈ wsL_law := mwr14 _ (List.mem_of_getElem? (i := 12) rfl)
theorem mw325 : Cond.selects RX4 yX4_sideOf yX4_sideOf ∈ wsL_law := mwr14 _ (List.mem_of_getElem? (i := 13) rfl)
theorem mw326 : Cond.code yX4_sideOf cX4_sideOf 5 (some .long) ∈ wsL_law := mwr14 _ (List.mem_of_getElem? (i := 14) rfl)
theorem mw327 : Cond.static yX9_cross ∈ wsL_law := mwr14 _ (List.mem_of_getElem? (i := 15) rfl)
theorem mw328 : Cond.code yX9_cross cX9_cross 12 (some .long) ∈ wsL_law := mwr14 _ (List.mem_of_getElem? (i := 16) rfl)
theorem mw329 : Cond.static yX9_isBetween ∈ wsL_law := mwr14 _ (List.mem_of_getElem? (i := 17) rfl)
theorem mw330 : Cond.code yX9_isBetween cX9_isBetween 3 (some .boolean) ∈ wsL_law := mwr14 _ (List.mem_of_getElem? (i := 18) rfl)
theorem mw331 : Cond.methodLink RX9 367 Lib.Math.min.name ∈ wsL_law := mwr14 _ (List.mem_of_getElem? (i := 19) rfl)
theorem mw332 : Cond.static Lib.Math.min.name ∈ wsL_law := mwr14 _ (List.mem_of_getElem? (i := 20) rfl)
theorem mw333 : Cond.initialized "java/lang/Math" ∈ wsL_law := mwr14 _ (List.mem_of_getElem? (i := 21) rfl)
theorem mw334 : Cond.code Lib.Math.min.name Lib.Math.min.code 2 (some .int) ∈ wsL_law := mwr14 _ (List.mem_of_getElem? (i := 22) rfl)
theorem mw335 : Cond.methodLink RX9 372 Lib.Math.max.name ∈ wsL_law := mwr14 _ (List.mem_of_getElem? (i := 23) rfl)
theorem mw336 : Cond.static Lib.Math.max.name ∈ wsL_law := mwr15 _ (List.mem_of_getElem? (i := 0) rfl)
theorem mw337 : Cond.code Lib.Math.max.name Lib.Math.max.code 2 (some .int) ∈ wsL_law := mwr15 _ (List.mem_of_getElem? (i := 1) rfl)
theorem mw338 : Cond.instanceMethod yX1_measureAll ∈ wsL_law := mwr15 _ (List.mem_of_getElem? (i := 2) rfl)
theorem mw339 : Cond.selects RX1 yX1_measureAll yX1_measureAll ∈ wsL_law := mwr15 _ (List.mem_of_getElem? (i := 3) rfl)
theorem mw340 : Cond.code yX1_measureAll cX1_measureAll 3 none ∈ wsL_law := mwr15 _ (List.mem_of_getElem? (i := 4) rfl)
theorem mw341 : Cond.methodLink RX1 25 yX1_beginMeasuring ∈ wsL_law := mwr15 _ (List.mem_of_getElem? (i := 5) rfl)
theorem mw342 : Cond.instanceMethod yX1_beginMeasuring ∈ wsL_law := mwr15 _ (List.mem_of_getElem? (i := 6) rfl)
theorem mw343 : Cond.selects RX1 yX1_beginMeasuring yX1_beginMeasuring ∈ wsL_law := mwr15 _ (List.mem_of_getElem? (i := 7) rfl)
theorem mw344 : Cond.code yX1_beginMeasuring cX1_beginMeasuring 2 none ∈ wsL_law := mwr15 _ (List.mem_of_getElem? (i := 8) rfl)
theorem mw345 : Cond.constantLong RX1 48 (4611686018427387904) ∈ wsL_law := mwr15 _ (List.mem_of_getElem? (i := 9) rfl)
theorem mw346 : Cond.fieldLink RX1 50 "PolarPlanimeter$Follower" "leastSquare" "J" ∈ wsL_law := mwr15 _ (List.mem_of_getElem? (i := 10) rfl)
theorem mw347 : Cond.fieldLink RX1 54 "PolarPlanimeter$Follower" "greatestSquare" "J" ∈ wsL_law := mwr15 _ (List.mem_of_getElem? (i := 11) rfl)
theorem mw348 : Cond.instanceMethod yX0_fit ∈ wsL_law := mwr15 _ (List.mem_of_getElem? (i := 12) rfl)
theorem mw349 : Cond.selects RX0 yX0_fit yX0_fit ∈ wsL_law := mwr15 _ (List.mem_of_getElem? (i := 13) rfl)
theorem mw350 : Cond.code yX0_fit cX0_fit 2 none ∈ wsL_law := mwr15 _ (List.mem_of_getElem? (i := 14) rfl)
theorem mw351 : Cond.constantLong RX0 9 (16) ∈ wsL_law := mwr15 _ (List.mem_of_getElem? (i := 15) rfl)
theorem mw352 : Cond.fieldLink RX0 17 "PolarPlanimeter$Arm" "anchorX" "J" ∈ wsL_law := mwr15 _ (List.mem_of_getElem? (i := 16) rfl)
theorem mw353 : Cond.fieldLink RX0 25 "PolarPlanimeter$Arm" "anchorY" "J" ∈ wsL_law := mwr15 _ (List.mem_of_getElem? (i := 17) rfl)
theorem mw354 : Cond.fieldLink RX0 31 "PolarPlanimeter$Arm" "pole" "J" ∈ wsL_law := mwr15 _ (List.mem_of_getElem? (i := 18) rfl)
theorem mw355 : Cond.fieldLink RX0 34 "PolarPlanimeter$Arm" "tracer" "J" ∈ wsL_law := mwr15 _ (List.mem_of_getElem? (i := 19) rfl)
theorem mw356 : Cond.fieldLink RX0 37 "PolarPlanimeter$Arm" "otherSide" "Z" ∈ wsL_law := mwr15 _ (List.mem_of_getElem? (i := 20) rfl)
theorem mw357 : Cond.methodLink RX1 41 yX1_measure ∈ wsL_law := mwr15 _ (List.mem_of_getElem? (i := 21) rfl)
theorem mw358 : Cond.instanceMethod yX1_measure ∈ wsL_law := mwr15 _ (List.mem_of_getElem? (i := 22) rfl)
theorem mw359 : Cond.selects RX1 yX1_measure yX1_measure ∈ wsL_law := mwr15 _ (List.mem_of_getElem? (i := 23) rfl)
theorem mw360 : Cond.code yX1_measure cX1_measure 8 none ∈ wsL_law := mwr16 _ (List.mem_of_getElem? (i := 0) rfl)
theorem mw361 : Cond.methodLink RX1 76 Lib.MathLoose.min_long.x ∈ wsL_law := mwr16 _ (List.mem_of_getElem? (i := 1) rfl)
theorem mw362 : Cond.static Lib.MathLoose.min_long.x ∈ wsL_law := mwr16 _ (List.mem_of_getElem? (i := 2) rfl)
theorem mw363 : Cond.code Lib.MathLoose.min_long.x Lib.MathLoose.min_long.code 4 (some .long) ∈ wsL_law := mwr16 _ (List.mem_of_getElem? (i := 3) rfl)
theorem mw364 : Cond.methodLink RX1 81 Lib.MathLoose.max_long.x ∈ wsL_law := mwr16 _ (List.mem_of_getElem? (i := 4) rfl)
theorem mw365 : Cond.static Lib.MathLoose.max_long.x ∈ wsL_law := mwr16 _ (List.mem_of_getElem? (i := 5) rfl)
theorem mw366 : Cond.code Lib.MathLoose.max_long.x Lib.MathLoose.max_long.code 4 (some .long) ∈ wsL_law := mwr16 _ (List.mem_of_getElem? (i := 6) rfl)
theorem mw367 : Cond.instanceMethod yX4_steps ∈ wsL_law := mwr16 _ (List.mem_of_getElem? (i := 7) rfl)
theorem mw368 : Cond.selects RX4 yX4_steps yX4_steps ∈ wsL_law := mwr16 _ (List.mem_of_getElem? (i := 8) rfl)
theorem mw369 : Cond.code yX4_steps cX4_steps 5 (some .int) ∈ wsL_law := mwr16 _ (List.mem_of_getElem? (i := 9) rfl)
theorem mw370 : Cond.methodLink RX4 39 Lib.Math.abs.name ∈ wsL_law := mwr16 _ (List.mem_of_getElem? (i := 10) rfl)
theorem mw371 : Cond.static Lib.Math.abs.name ∈ wsL_law := mwr16 _ (List.mem_of_getElem? (i := 11) rfl)
theorem mw372 : Cond.code Lib.Math.abs.name Lib.Math.abs.code 1 (some .int) ∈ wsL_law := mwr16 _ (List.mem_of_getElem? (i := 12) rfl)
theorem mw373 : Cond.methodLink RX4 44 Lib.Math.max.name ∈ wsL_law := mwr16 _ (List.mem_of_getElem? (i := 13) rfl)
theorem mw374 : Cond.methodLink RX4 52 Lib.MathLoose.max_long.x ∈ wsL_law := mwr16 _ (List.mem_of_getElem? (i := 14) rfl)
theorem mw375 : Cond.static yX9_quotient ∈ wsL_law := mwr16 _ (List.mem_of_getElem? (i := 15) rfl)
theorem mw376 : Cond.code yX9_quotient cX9_quotient 4 (some .long) ∈ wsL_law := mwr16 _ (List.mem_of_getElem? (i := 16) rfl)
theorem mw377 : Cond.instanceMethod yX4_fineX ∈ wsL_law := mwr16 _ (List.mem_of_getElem? (i := 17) rfl)
theorem mw378 : Cond.selects RX4 yX4_fineX yX4_fineX ∈ wsL_law := mwr16 _ (List.mem_of_getElem? (i := 18) rfl)
theorem mw379 : Cond.code yX4_fineX cX4_fineX 4 (some .long) ∈ wsL_law := mwr16 _ (List.mem_of_getElem? (i := 19) rfl)
theorem mw380 : Cond.methodLink RX4 79 yX4_finePart ∈ wsL_law := mwr16 _ (List.mem_of_getElem? (i := 20) rfl)
theorem mw381 : Cond.static yX4_finePart ∈ wsL_law := mwr16 _ (List.mem_of_getElem? (i := 21) rfl)
theorem mw382 : Cond.code yX4_finePart cX4_finePart 4 (some .long) ∈ wsL_law := mwr16 _ (List.mem_of_getElem? (i := 22) rfl)
theorem mw383 : Cond.constantLong RX4 83 (16) ∈ wsL_law := mwr16 _ (List.mem_of_getElem? (i := 23) rfl)
theorem mw384 : Cond.instanceMethod yX4_fineY ∈ wsL_law := mwr17 _ (List.mem_of_getElem? (i := 0) rfl)
theorem mw385 : Cond.selects RX4 yX4_fineY yX4_fineY ∈ wsL_law := mwr17 _ (List.mem_of_getElem? (i := 1) rfl)
theorem mw386 : Cond.code yX4_fineY cX4_fineY 4 (some .long) ∈ wsL_law := mwr17 _ (List.mem_of_getElem? (i := 2) rfl)
theorem mw387 : Cond.instanceMethod yX0_squareTo ∈ wsL_law := mwr17 _ (List.mem_of_getElem? (i := 3) rfl)
theorem mw388 : Cond.selects RX0 yX0_squareTo yX0_squareTo ∈ wsL_law := mwr17 _ (List.mem_of_getElem? (i := 4) rfl)
theorem mw389 : Cond.code yX0_squareTo cX0_squareTo 9 (some .long) ∈ wsL_law := mwr17 _ (List.mem_of_getElem? (i := 5) rfl)
theorem mw390 : Cond.instanceMethod yX1_reachesMeasured ∈ wsL_law := mwr17 _ (List.mem_of_getElem? (i := 6) rfl)
theorem mw391 : Cond.selects RX1 yX1_reachesMeasured yX1_reachesMeasured ∈ wsL_law := mwr17 _ (List.mem_of_getElem? (i := 7) rfl)
theorem mw392 : Cond.code yX1_reachesMeasured cX1_reachesMeasured 1 (some .boolean) ∈ wsL_law := mwr17 _ (List.mem_of_getElem? (i := 8) rfl)
theorem mw393 : Cond.static yX9_root ∈ wsL_law := mwr17 _ (List.mem_of_getElem? (i := 9) rfl)
theorem mw394 : Cond.code yX9_root cX9_root 8 (some .long) ∈ wsL_law := mwr17 _ (List.mem_of_getElem? (i := 10) rfl)
theorem mw395 : Cond.constantLong RX9 365 (2) ∈ wsL_law := mwr17 _ (List.mem_of_getElem? (i := 11) rfl)
theorem mw396 : Cond.methodLink RX9 359 yJ13_numberOfLeadingZeros_95d88 ∈ wsL_law := mwr17 _ (List.mem_of_getElem? (i := 12) rfl)
theorem mw397 : Cond.static yJ13_numberOfLeadingZeros_95d88 ∈ wsL_law := mwr17 _ (List.mem_of_getElem? (i := 13) rfl)
theorem mw398 : Cond.initialized RJ13 ∈ wsL_law := mwr17 _ (List.mem_of_getElem? (i := 14) rfl)
theorem mw399 : Cond.code yJ13_numberOfLeadingZeros_95d88 cJ13_numberOfLeadingZeros_95d88 3 (some .int) ∈ wsL_law := mwr17 _ (List.mem_of_getElem? (i := 15) rfl)
theorem mw400 : Cond.methodLink RJ13 308 yJ6_numberOfLeadingZeros_0f7a4 ∈ wsL_law := mwr17 _ (List.mem_of_getElem? (i := 16) rfl)
theorem mw401 : Cond.static yJ6_numberOfLeadingZeros_0f7a4 ∈ wsL_law := mwr17 _ (List.mem_of_getElem? (i := 17) rfl)
theorem mw402 : Cond.initialized RJ6 ∈ wsL_law := mwr17 _ (List.mem_of_getElem? (i := 18) rfl)
theorem mw403 : Cond.code yJ6_numberOfLeadingZeros_0f7a4 cJ6_numberOfLeadingZeros_0f7a4 2 (some .int) ∈ wsL_law := mwr17 _ (List.mem_of_getElem? (i := 19) rfl)
theorem mw404 : Cond.constant RJ6 264 (65536) ∈ wsL_law := mwr17 _ (List.mem_of_getElem? (i := 20) rfl)
theorem mw405 : Cond.methodLink RX9 309 yX9_quotient ∈ wsL_law := mwr17 _ (List.mem_of_getElem? (i := 21) rfl)
theorem mw406 : Cond.instanceMethod yX0_spans ∈ wsL_law := mwr17 _ (List.mem_of_getElem? (i := 22) rfl)
theorem mw407 : Cond.selects RX0 yX0_spans yX0_spans ∈ wsL_law := mwr17 _ (List.mem_of_getElem? (i := 23) rfl)
theorem mw408 : Cond.code yX0_spans cX0_spans 3 (some .boolean) ∈ wsL_law := mwr18 _ (List.mem_of_getElem? (i := 0) rfl)
theorem mw409 : Cond.methodLink RX0 41 Lib.MathLoose.abs_long.x ∈ wsL_law := mwr18 _ (List.mem_of_getElem? (i := 1) rfl)
theorem mw410 : Cond.static Lib.MathLoose.abs_long.x ∈ wsL_law := mwr18 _ (List.mem_of_getElem? (i := 2) rfl)
theorem mw411 : Cond.code Lib.MathLoose.abs_long.x Lib.MathLoose.abs_long.code 2 (some .long) ∈ wsL_law := mwr18 _ (List.mem_of_getElem? (i := 3) rfl)
theorem mw412 : Cond.instanceMethod yX1_sum ∈ wsL_law := mwr18 _ (List.mem_of_getElem? (i := 4) rfl)
theorem mw413 : Cond.selects RX1 yX1_sum yX1_sum ∈ wsL_law := mwr18 _ (List.mem_of_getElem? (i := 5) rfl)
theorem mw414 : Cond.code yX1_sum cX1_sum 7 (some .long) ∈ wsL_law := mwr18 _ (List.mem_of_getElem? (i := 6) rfl)
theorem mw415 : Cond.constantLong RX1 92 (16) ∈ wsL_law := mwr18 _ (List.mem_of_getElem? (i := 7) rfl)
theorem mw416 : Cond.instanceMethod yX0_place ∈ wsL_law := mwr18 _ (List.mem_of_getElem? (i := 8) rfl)
theorem mw417 : Cond.selects RX0 yX0_place yX0_place ∈ wsL_law := mwr18 _ (List.mem_of_getElem? (i := 9) rfl)
theorem mw418 : Cond.code yX0_place cX0_place 17 (some .boolean) ∈ wsL_law := mwr18 _ (List.mem_of_getElem? (i := 10) rfl)
theorem mw419 : Cond.fieldLink RX0 47 "PolarPlanimeter$Arm" "tracerX" "J" ∈ wsL_law := mwr18 _ (List.mem_of_getElem? (i := 11) rfl)
theorem mw420 : Cond.fieldLink RX0 50 "PolarPlanimeter$Arm" "tracerY" "J" ∈ wsL_law := mwr18 _ (List.mem_of_getElem? (i := 12) rfl)
theorem mw421 : Cond.fieldLink RX0 53 "PolarPlanimeter$Arm" "elbowX" "J" ∈ wsL_law := mwr18 _ (List.mem_of_getElem? (i := 13) rfl)
theorem mw422 : Cond.fieldLink RX0 56 "PolarPlanimeter$Arm" "elbowY" "J" ∈ wsL_law := mwr18 _ (List.mem_of_getElem? (i := 14) rfl)
theorem mw423 : Cond.constantLong RX0 70 (2) ∈ wsL_law := mwr18 _ (List.mem_of_getElem? (i := 15) rfl)
theorem mw424 : Cond.methodLink RX0 75 Lib.MathLoose.max_long.x ∈ wsL_law := mwr18 _ (List.mem_of_getElem? (i := 16) rfl)
theorem mw425 : Cond.methodLink RX0 59 yX0_squareTo ∈ wsL_law := mwr18 _ (List.mem_of_getElem? (i := 17) rfl)
theorem mw426 : Cond.methodLink RX0 66 yX0_spans ∈ wsL_law := mwr18 _ (List.mem_of_getElem? (i := 18) rfl)
theorem mw427 : Cond.instanceMethod yX8_start ∈ wsL_law := mwr18 _ (List.mem_of_getElem? (i := 19) rfl)
theorem mw428 : Cond.selects RX8 yX8_start yX8_start ∈ wsL_law := mwr18 _ (List.mem_of_getElem? (i := 20) rfl)
theorem mw429 : Cond.code yX8_start cX8_start 2 none ∈ wsL_law := mwr18 _ (List.mem_of_getElem? (i := 21) rfl)
theorem mw430 : Cond.constantLong RX8 9 (512) ∈ wsL_law := mwr18 _ (List.mem_of_getElem? (i := 22) rfl)
theorem mw431 : Cond.fieldLink RX8 11 "PolarPlanimeter$Wheel" "play" "J" ∈ wsL_law := mwr18 _ (List.mem_of_getElem? (i := 23) rfl)
theorem mw432 : Cond.fieldLink RX8 17 "PolarPlanimeter$Wheel" "slack" "J" ∈ wsL_law := mwr19 _ (List.mem_of_getElem? (i := 0) rfl)
theorem mw433 : Cond.fieldLink RX8 20 "PolarPlanimeter$Wheel" "counted" "J" ∈ wsL_law := mwr19 _ (List.mem_of_getElem? (i := 1) rfl)
theorem mw434 : Cond.instanceMethod yX4_previous ∈ wsL_law := mwr19 _ (List.mem_of_getElem? (i := 2) rfl)
theorem mw435 : Cond.selects RX4 yX4_previous yX4_previous ∈ wsL_law := mwr19 _ (List.mem_of_getElem? (i := 3) rfl)
theorem mw436 : Cond.code yX4_previous cX4_previous 2 (some .int) ∈ wsL_law := mwr19 _ (List.mem_of_getElem? (i := 4) rfl)
theorem mw437 : Cond.methodLink RX1 122 yX1_follow ∈ wsL_law := mwr19 _ (List.mem_of_getElem? (i := 5) rfl)
theorem mw438 : Cond.instanceMethod yX1_follow ∈ wsL_law := mwr19 _ (List.mem_of_getElem? (i := 6) rfl)
theorem mw439 : Cond.selects RX1 yX1_follow yX1_follow ∈ wsL_law := mwr19 _ (List.mem_of_getElem? (i := 7) rfl)
theorem mw440 : Cond.code yX1_follow cX1_follow 9 none ∈ wsL_law := mwr19 _ (List.mem_of_getElem? (i := 8) rfl)
theorem mw441 : Cond.instanceMethod yX0_sweepTo ∈ wsL_law := mwr19 _ (List.mem_of_getElem? (i := 9) rfl)
theorem mw442 : Cond.selects RX0 yX0_sweepTo yX0_sweepTo ∈ wsL_law := mwr19 _ (List.mem_of_getElem? (i := 10) rfl)
theorem mw443 : Cond.code yX0_sweepTo cX0_sweepTo 13 (some .long) ∈ wsL_law := mwr19 _ (List.mem_of_getElem? (i := 11) rfl)
theorem mw444 : Cond.methodLink RX0 78 yX0_place ∈ wsL_law := mwr19 _ (List.mem_of_getElem? (i := 12) rfl)
theorem mw445 : Cond.instanceMethod yX8_turn ∈ wsL_law := mwr19 _ (List.mem_of_getElem? (i := 13) rfl)
theorem mw446 : Cond.selects RX8 yX8_turn yX8_turn ∈ wsL_law := mwr19 _ (List.mem_of_getElem? (i := 14) rfl)
theorem mw447 : Cond.code yX8_turn cX8_turn 4 none ∈ wsL_law := mwr19 _ (List.mem_of_getElem? (i := 15) rfl)
theorem mw448 : Cond.constantLong RX8 23 (100) ∈ wsL_law := mwr19 _ (List.mem_of_getElem? (i := 16) rfl)
theorem mw449 : Cond.instanceMethod yX5_add ∈ wsL_law := mwr19 _ (List.mem_of_getElem? (i := 17) rfl)
theorem mw450 : Cond.selects RX5 yX5_add yX5_add ∈ wsL_law := mwr19 _ (List.mem_of_getElem? (i := 18) rfl)
theorem mw451 : Cond.code yX5_add cX5_add 5 none ∈ wsL_law := mwr19 _ (List.mem_of_getElem? (i := 19) rfl)
theorem mw452 : Cond.methodLink RL 114 yX10_run ∈ wsL_law := mwr19 _ (List.mem_of_getElem? (i := 20) rfl)
theorem mw453 : Cond.instanceMethod yX10_run ∈ wsL_law := mwr19 _ (List.mem_of_getElem? (i := 21) rfl)
theorem mw454 : Cond.selects RX10 yX10_run yX10_run ∈ wsL_law := mwr19 _ (List.mem_of_getElem? (i := 22) rfl)
theorem mw455 : Cond.code yX10_run cX10_run 3 (some .int) ∈ wsL_law := mwr19 _ (List.mem_of_getElem? (i := 23) rfl)
theorem mw456 : Cond.fieldLink RX10 226 "PolarPlanimeterModel" "latest" "I" ∈ wsL_law := mwr20 _ (List.mem_of_getElem? (i := 0) rfl)
theorem mw457 : Cond.methodLink RX10 223 yX10_refusal ∈ wsL_law := mwr20 _ (List.mem_of_getElem? (i := 1) rfl)
theorem mw458 : Cond.instanceMethod yX10_refusal ∈ wsL_law := mwr20 _ (List.mem_of_getElem? (i := 2) rfl)
theorem mw459 : Cond.selects RX10 yX10_refusal yX10_refusal ∈ wsL_law := mwr20 _ (List.mem_of_getElem? (i := 3) rfl)
theorem mw460 : Cond.code yX10_refusal cX10_refusal 2 (some .int) ∈ wsL_law := mwr20 _ (List.mem_of_getElem? (i := 4) rfl)
theorem mw461 : Cond.constantLong RX10 156 (12) ∈ wsL_law := mwr20 _ (List.mem_of_getElem? (i := 5) rfl)
theorem mw462 : Cond.methodLink RX10 153 yX10_shut ∈ wsL_law := mwr20 _ (List.mem_of_getElem? (i := 6) rfl)
theorem mw463 : Cond.instanceMethod yX10_shut ∈ wsL_law := mwr20 _ (List.mem_of_getElem? (i := 7) rfl)
theorem mw464 : Cond.selects RX10 yX10_shut yX10_shut ∈ wsL_law := mwr20 _ (List.mem_of_getElem? (i := 8) rfl)
theorem mw465 : Cond.code yX10_shut cX10_shut 1 (some .int) ∈ wsL_law := mwr20 _ (List.mem_of_getElem? (i := 9) rfl)
theorem mw466 : Cond.methodLink RX10 146 yX10_isOnOutline ∈ wsL_law := mwr20 _ (List.mem_of_getElem? (i := 10) rfl)
theorem mw467 : Cond.instanceMethod yX10_isOnOutline ∈ wsL_law := mwr20 _ (List.mem_of_getElem? (i := 11) rfl)
theorem mw468 : Cond.selects RX10 yX10_isOnOutline yX10_isOnOutline ∈ wsL_law := mwr20 _ (List.mem_of_getElem? (i := 12) rfl)
theorem mw469 : Cond.code yX10_isOnOutline cX10_isOnOutline 3 (some .boolean) ∈ wsL_law := mwr20 _ (List.mem_of_getElem? (i := 13) rfl)
theorem mw470 : Cond.methodLink RX10 133 yX10_isOn ∈ wsL_law := mwr20 _ (List.mem_of_getElem? (i := 14) rfl)
theorem mw471 : Cond.instanceMethod yX10_isOn ∈ wsL_law := mwr20 _ (List.mem_of_getElem? (i := 15) rfl)
theorem mw472 : Cond.selects RX10 yX10_isOn yX10_isOn ∈ wsL_law := mwr20 _ (List.mem_of_getElem? (i := 16) rfl)
theorem mw473 : Cond.code yX10_isOn cX10_isOn 7 (some .boolean) ∈ wsL_law := mwr20 _ (List.mem_of_getElem? (i := 17) rfl)
theorem mw474 : Cond.methodLink RX10 71 yX10_x ∈ wsL_law := mwr20 _ (List.mem_of_getElem? (i := 18) rfl)
theorem mw475 : Cond.instanceMethod yX10_x ∈ wsL_law := mwr20 _ (List.mem_of_getElem? (i := 19) rfl)
theorem mw476 : Cond.selects RX10 yX10_x yX10_x ∈ wsL_law := mwr20 _ (List.mem_of_getElem? (i := 20) rfl)
theorem mw477 : Cond.code yX10_x cX10_x 2 (some .long) ∈ wsL_law := mwr20 _ (List.mem_of_getElem? (i := 21) rfl)
theorem mw478 : Cond.methodLink RX10 74 yX10_y ∈ wsL_law := mwr20 _ (List.mem_of_getElem? (i := 22) rfl)
theorem mw479 : Cond.instanceMethod yX10_y ∈ wsL_law := mwr20 _ (List.mem_of_getElem? (i := 23) rfl)
theorem mw480 : Cond.selects RX10 yX10_y yX10_y ∈ wsL_law := mwr21 _ (List.mem_of_getElem? (i := 0) rfl)
theorem mw481 : Cond.code yX10_y cX10_y 2 (some .long) ∈ wsL_law := mwr21 _ (List.mem_of_getElem? (i := 1) rfl)
theorem mw482 : Cond.methodLink RX10 100 yX10_turn ∈ wsL_law := mwr21 _ (List.mem_of_getElem? (i := 2) rfl)
theorem mw483 : Cond.static yX10_turn ∈ wsL_law := mwr21 _ (List.mem_of_getElem? (i := 3) rfl)
theorem mw484 : Cond.code yX10_turn cX10_turn 12 (some .long) ∈ wsL_law := mwr21 _ (List.mem_of_getElem? (i := 4) rfl)
theorem mw485 : Cond.methodLink RX10 150 yX10_allReached ∈ wsL_law := mwr21 _ (List.mem_of_getElem? (i := 5) rfl)
theorem mw486 : Cond.instanceMethod yX10_allReached ∈ wsL_law := mwr21 _ (List.mem_of_getElem? (i := 6) rfl)
theorem mw487 : Cond.selects RX10 yX10_allReached yX10_allReached ∈ wsL_law := mwr21 _ (List.mem_of_getElem? (i := 7) rfl)
theorem mw488 : Cond.code yX10_allReached cX10_allReached 3 (some .boolean) ∈ wsL_law := mwr21 _ (List.mem_of_getElem? (i := 8) rfl)
theorem mw489 : Cond.methodLink RX10 92 yX10_isReached ∈ wsL_law := mwr21 _ (List.mem_of_getElem? (i := 9) rfl)
theorem mw490 : Cond.instanceMethod yX10_isReached ∈ wsL_law := mwr21 _ (List.mem_of_getElem? (i := 10) rfl)
theorem mw491 : Cond.selects RX10 yX10_isReached yX10_isReached ∈ wsL_law := mwr21 _ (List.mem_of_getElem? (i := 11) rfl)
theorem mw492 : Cond.code yX10_isReached cX10_isReached 4 (some .boolean) ∈ wsL_law := mwr21 _ (List.mem_of_getElem? (i := 12) rfl)
theorem mw493 : Cond.methodLink RX10 77 yX10_steps ∈ wsL_law := mwr21 _ (List.mem_of_getElem? (i := 13) rfl)
theorem mw494 : Cond.instanceMethod yX10_steps ∈ wsL_law := mwr21 _ (List.mem_of_getElem? (i := 14) rfl)
theorem mw495 : Cond.selects RX10 yX10_steps yX10_steps ∈ wsL_law := mwr21 _ (List.mem_of_getElem? (i := 15) rfl)
theorem mw496 : Cond.code yX10_steps cX10_steps 8 (some .int) ∈ wsL_law := mwr21 _ (List.mem_of_getElem? (i := 16) rfl)
theorem mw497 : Cond.methodLink RX10 61 yX10_size ∈ wsL_law := mwr21 _ (List.mem_of_getElem? (i := 17) rfl)
theorem mw498 : Cond.static yX10_size ∈ wsL_law := mwr21 _ (List.mem_of_getElem? (i := 18) rfl)
theorem mw499 : Cond.code yX10_size cX10_size 2 (some .long) ∈ wsL_law := mwr21 _ (List.mem_of_getElem? (i := 19) rfl)
theorem mw500 : Cond.methodLink RX10 57 yX10_of ∈ wsL_law := mwr21 _ (List.mem_of_getElem? (i := 20) rfl)
theorem mw501 : Cond.instanceMethod yX10_of ∈ wsL_law := mwr21 _ (List.mem_of_getElem? (i := 21) rfl)
theorem mw502 : Cond.selects RX10 yX10_of yX10_of ∈ wsL_law := mwr21 _ (List.mem_of_getElem? (i := 22) rfl)
theorem mw503 : Cond.code yX10_of cX10_of 2 (some .long) ∈ wsL_law := mwr21 _ (List.mem_of_getElem? (i := 23) rfl)
theorem mw504 : Cond.methodLink RX10 81 yX10_pointX ∈ wsL_law := mwr22 _ (List.mem_of_getElem? (i := 0) rfl)
theorem mw505 : Cond.instanceMethod yX10_pointX ∈ wsL_law := mwr22 _ (List.mem_of_getElem? (i := 1) rfl)
theorem mw506 : Cond.selects RX10 yX10_pointX yX10_pointX ∈ wsL_law := mwr22 _ (List.mem_of_getElem? (i := 2) rfl)
theorem mw507 : Cond.code yX10_pointX cX10_pointX 3 (some .long) ∈ wsL_law := mwr22 _ (List.mem_of_getElem? (i := 3) rfl)
theorem mw508 : Cond.constantLong RX10 51 (16) ∈ wsL_law := mwr22 _ (List.mem_of_getElem? (i := 4) rfl)
theorem mw509 : Cond.methodLink RX10 85 yX10_pointY ∈ wsL_law := mwr22 _ (List.mem_of_getElem? (i := 5) rfl)
theorem mw510 : Cond.instanceMethod yX10_pointY ∈ wsL_law := mwr22 _ (List.mem_of_getElem? (i := 6) rfl)
theorem mw511 : Cond.selects RX10 yX10_pointY yX10_pointY ∈ wsL_law := mwr22 _ (List.mem_of_getElem? (i := 7) rfl)
theorem mw512 : Cond.code yX10_pointY cX10_pointY 3 (some .long) ∈ wsL_law := mwr22 _ (List.mem_of_getElem? (i := 8) rfl)
theorem mw513 : Cond.methodLink RX10 88 yX10_reaches ∈ wsL_law := mwr22 _ (List.mem_of_getElem? (i := 9) rfl)
theorem mw514 : Cond.instanceMethod yX10_reaches ∈ wsL_law := mwr22 _ (List.mem_of_getElem? (i := 10) rfl)
theorem mw515 : Cond.selects RX10 yX10_reaches yX10_reaches ∈ wsL_law := mwr22 _ (List.mem_of_getElem? (i := 11) rfl)
theorem mw516 : Cond.code yX10_reaches cX10_reaches 15 (some .boolean) ∈ wsL_law := mwr22 _ (List.mem_of_getElem? (i := 12) rfl)
theorem mw517 : Cond.methodLink RX10 53 yX10_root ∈ wsL_law := mwr22 _ (List.mem_of_getElem? (i := 13) rfl)
theorem mw518 : Cond.static yX10_root ∈ wsL_law := mwr22 _ (List.mem_of_getElem? (i := 14) rfl)
theorem mw519 : Cond.code yX10_root cX10_root 8 (some .long) ∈ wsL_law := mwr22 _ (List.mem_of_getElem? (i := 15) rfl)
theorem mw520 : Cond.constantLong RX10 47 (4000000) ∈ wsL_law := mwr22 _ (List.mem_of_getElem? (i := 16) rfl)
theorem mw521 : Cond.constantLong RX10 49 (2) ∈ wsL_law := mwr22 _ (List.mem_of_getElem? (i := 17) rfl)
theorem mw522 : Cond.methodLink RX10 229 yX10_make ∈ wsL_law := mwr22 _ (List.mem_of_getElem? (i := 18) rfl)
theorem mw523 : Cond.instanceMethod yX10_make ∈ wsL_law := mwr22 _ (List.mem_of_getElem? (i := 19) rfl)
theorem mw524 : Cond.selects RX10 yX10_make yX10_make ∈ wsL_law := mwr22 _ (List.mem_of_getElem? (i := 20) rfl)
theorem mw525 : Cond.code yX10_make cX10_make 4 none ∈ wsL_law := mwr22 _ (List.mem_of_getElem? (i := 21) rfl)
theorem mw526 : Cond.methodLink RX10 219 yX10_sumOf ∈ wsL_law := mwr22 _ (List.mem_of_getElem? (i := 22) rfl)
theorem mw527 : Cond.instanceMethod yX10_sumOf ∈ wsL_law := mwr22 _ (List.mem_of_getElem? (i := 23) rfl)
theorem mw528 : Cond.selects RX10 yX10_sumOf yX10_sumOf ∈ wsL_law := mwr23 _ (List.mem_of_getElem? (i := 0) rfl)
theorem mw529 : Cond.code yX10_sumOf cX10_sumOf 5 (some .long) ∈ wsL_law := mwr23 _ (List.mem_of_getElem? (i := 1) rfl)
theorem mw530 : Cond.fieldLink RX10 114 "PolarPlanimeterModel" "played" "J" ∈ wsL_law := mwr23 _ (List.mem_of_getElem? (i := 2) rfl)
theorem mw531 : Cond.fieldLink RX10 122 "PolarPlanimeterModel" "wheel" "J" ∈ wsL_law := mwr23 _ (List.mem_of_getElem? (i := 3) rfl)
theorem mw532 : Cond.methodLink RX10 129 yX10_follow ∈ wsL_law := mwr23 _ (List.mem_of_getElem? (i := 4) rfl)
theorem mw533 : Cond.instanceMethod yX10_follow ∈ wsL_law := mwr23 _ (List.mem_of_getElem? (i := 5) rfl)
theorem mw534 : Cond.selects RX10 yX10_follow yX10_follow ∈ wsL_law := mwr23 _ (List.mem_of_getElem? (i := 6) rfl)
theorem mw535 : Cond.code yX10_follow cX10_follow 5 none ∈ wsL_law := mwr23 _ (List.mem_of_getElem? (i := 7) rfl)
theorem mw536 : Cond.methodLink RX10 108 yX10_sweptIn ∈ wsL_law := mwr23 _ (List.mem_of_getElem? (i := 8) rfl)
theorem mw537 : Cond.instanceMethod yX10_sweptIn ∈ wsL_law := mwr23 _ (List.mem_of_getElem? (i := 9) rfl)
theorem mw538 : Cond.selects RX10 yX10_sweptIn yX10_sweptIn ∈ wsL_law := mwr23 _ (List.mem_of_getElem? (i := 10) rfl)
theorem mw539 : Cond.code yX10_sweptIn cX10_sweptIn 4 (some .long) ∈ wsL_law := mwr23 _ (List.mem_of_getElem? (i := 11) rfl)
theorem mw540 : Cond.methodLink RX10 104 yX10_swept ∈ wsL_law := mwr23 _ (List.mem_of_getElem? (i := 12) rfl)
theorem mw541 : Cond.instanceMethod yX10_swept ∈ wsL_law := mwr23 _ (List.mem_of_getElem? (i := 13) rfl)
theorem mw542 : Cond.selects RX10 yX10_swept yX10_swept ∈ wsL_law := mwr23 _ (List.mem_of_getElem? (i := 14) rfl)
theorem mw543 : Cond.code yX10_swept cX10_swept 13 (some .long) ∈ wsL_law := mwr23 _ (List.mem_of_getElem? (i := 15) rfl)
theorem mw544 : Cond.fieldLink RX10 64 "PolarPlanimeterModel" "elbowX" "J" ∈ wsL_law := mwr23 _ (List.mem_of_getElem? (i := 16) rfl)
theorem mw545 : Cond.fieldLink RX10 68 "PolarPlanimeterModel" "elbowY" "J" ∈ wsL_law := mwr23 _ (List.mem_of_getElem? (i := 17) rfl)
theorem mw546 : Cond.methodLink RX10 96 yX10_layElbow ∈ wsL_law := mwr23 _ (List.mem_of_getElem? (i := 18) rfl)
theorem mw547 : Cond.instanceMethod yX10_layElbow ∈ wsL_law := mwr23 _ (List.mem_of_getElem? (i := 19) rfl)
theorem mw548 : Cond.selects RX10 yX10_layElbow yX10_layElbow ∈ wsL_law := mwr23 _ (List.mem_of_getElem? (i := 20) rfl)
theorem mw549 : Cond.code yX10_layElbow cX10_layElbow 23 none ∈ wsL_law := mwr23 _ (List.mem_of_getElem? (i := 21) rfl)
theorem mw550 : Cond.methodLink RX10 125 yX10_rollOn ∈ wsL_law := mwr23 _ (List.mem_of_getElem? (i := 22) rfl)
theorem mw551 : Cond.instanceMethod yX10_rollOn ∈ wsL_law := mwr23 _ (List.mem_of_getElem? (i := 23) rfl)
theorem mw552 : Cond.selects RX10 yX10_rollOn yX10_rollOn ∈ wsL_law := mwr24 _ (List.mem_of_getElem? (i := 0) rfl)
theorem mw553 : Cond.code yX10_rollOn cX10_rollOn 6 none ∈ wsL_law := mwr24 _ (List.mem_of_getElem? (i := 1) rfl)
theorem mw554 : Cond.constantLong RX10 112 (512) ∈ wsL_law := mwr24 _ (List.mem_of_getElem? (i := 2) rfl)
theorem mw555 : Cond.methodLink RX10 119 yX10_slip ∈ wsL_law := mwr24 _ (List.mem_of_getElem? (i := 3) rfl)
theorem mw556 : Cond.instanceMethod yX10_slip ∈ wsL_law := mwr24 _ (List.mem_of_getElem? (i := 4) rfl)
theorem mw557 : Cond.selects RX10 yX10_slip yX10_slip ∈ wsL_law := mwr24 _ (List.mem_of_getElem? (i := 5) rfl)
theorem mw558 : Cond.code yX10_slip cX10_slip 2 (some .long) ∈ wsL_law := mwr24 _ (List.mem_of_getElem? (i := 6) rfl)
theorem mw559 : Cond.methodLink RL 115 yX9_runAll ∈ wsL_law := mwr24 _ (List.mem_of_getElem? (i := 7) rfl)
theorem mw560 : Cond.instanceMethod yX9_runAll ∈ wsL_law := mwr24 _ (List.mem_of_getElem? (i := 8) rfl)
theorem mw561 : Cond.selects RX9 yX9_runAll yX9_runAll ∈ wsL_law := mwr24 _ (List.mem_of_getElem? (i := 9) rfl)
theorem mw562 : Cond.code yX9_runAll cX9_runAll 5 (some .int) ∈ wsL_law := mwr24 _ (List.mem_of_getElem? (i := 10) rfl)
theorem mw563 : Cond.methodLink RL 118 yX10_runAll ∈ wsL_law := mwr24 _ (List.mem_of_getElem? (i := 11) rfl)
theorem mw564 : Cond.instanceMethod yX10_runAll ∈ wsL_law := mwr24 _ (List.mem_of_getElem? (i := 12) rfl)
theorem mw565 : Cond.selects RX10 yX10_runAll yX10_runAll ∈ wsL_law := mwr24 _ (List.mem_of_getElem? (i := 13) rfl)
theorem mw566 : Cond.code yX10_runAll cX10_runAll 3 (some .int) ∈ wsL_law := mwr24 _ (List.mem_of_getElem? (i := 14) rfl)
theorem mw567 : Cond.methodLink RL 119 yX9_forget ∈ wsL_law := mwr24 _ (List.mem_of_getElem? (i := 15) rfl)
theorem mw568 : Cond.instanceMethod yX9_forget ∈ wsL_law := mwr24 _ (List.mem_of_getElem? (i := 16) rfl)
theorem mw569 : Cond.selects RX9 yX9_forget yX9_forget ∈ wsL_law := mwr24 _ (List.mem_of_getElem? (i := 17) rfl)
theorem mw570 : Cond.code yX9_forget cX9_forget 1 (some .int) ∈ wsL_law := mwr24 _ (List.mem_of_getElem? (i := 18) rfl)
theorem mw571 : Cond.methodLink RL 122 yX10_forget ∈ wsL_law := mwr24 _ (List.mem_of_getElem? (i := 19) rfl)
theorem mw572 : Cond.instanceMethod yX10_forget ∈ wsL_law := mwr24 _ (List.mem_of_getElem? (i := 20) rfl)
theorem mw573 : Cond.selects RX10 yX10_forget yX10_forget ∈ wsL_law := mwr24 _ (List.mem_of_getElem? (i := 21) rfl)
theorem mw574 : Cond.code yX10_forget cX10_forget 1 (some .int) ∈ wsL_law := mwr24 _ (List.mem_of_getElem? (i := 22) rfl)
theorem mw575 : Cond.methodLink RL 123 yL_append ∈ wsL_law := mwr24 _ (List.mem_of_getElem? (i := 23) rfl)
theorem mw576 : Cond.static yL_append ∈ wsL_law := mwr25 _ (List.mem_of_getElem? (i := 0) rfl)
theorem mw577 : Cond.codeWith yL_append cL_append 4 (some .int) [(0, 9, 12, 13), (0, 9, 15, 28)] ∈ wsL_law := mwr25 _ (List.mem_of_getElem? (i := 1) rfl)
theorem mw578 : Cond.methodLink RL 43 yX9_append ∈ wsL_law := mwr25 _ (List.mem_of_getElem? (i := 2) rfl)
theorem mw579 : Cond.instanceMethod yX9_append ∈ wsL_law := mwr25 _ (List.mem_of_getElem? (i := 3) rfl)
theorem mw580 : Cond.selects RX9 yX9_append yX9_append ∈ wsL_law := mwr25 _ (List.mem_of_getElem? (i := 4) rfl)
theorem mw581 : Cond.code yX9_append cX9_append 2 (some .int) ∈ wsL_law := mwr25 _ (List.mem_of_getElem? (i := 5) rfl)
theorem mw582 : Cond.fieldLink RX9 165 "PolarPlanimeter" "bufferLength" "I" ∈ wsL_law := mwr25 _ (List.mem_of_getElem? (i := 6) rfl)
theorem mw583 : Cond.methodLink RL 125 yX10_append ∈ wsL_law := mwr25 _ (List.mem_of_getElem? (i := 7) rfl)
theorem mw584 : Cond.instanceMethod yX10_append ∈ wsL_law := mwr25 _ (List.mem_of_getElem? (i := 8) rfl)
theorem mw585 : Cond.selects RX10 yX10_append yX10_append ∈ wsL_law := mwr25 _ (List.mem_of_getElem? (i := 9) rfl)
theorem mw586 : Cond.code yX10_append cX10_append 2 (some .int) ∈ wsL_law := mwr25 _ (List.mem_of_getElem? (i := 10) rfl)
theorem mw587 : Cond.constantLong RX10 232 (33) ∈ wsL_law := mwr25 _ (List.mem_of_getElem? (i := 11) rfl)
theorem mw588 : Cond.constantLong RX10 234 (126) ∈ wsL_law := mwr25 _ (List.mem_of_getElem? (i := 12) rfl)
theorem mw589 : Cond.fieldLink RX10 236 "PolarPlanimeterModel" "length" "I" ∈ wsL_law := mwr25 _ (List.mem_of_getElem? (i := 13) rfl)
theorem mw590 : Cond.methodLink RL 126 yX9_clearBuffer ∈ wsL_law := mwr25 _ (List.mem_of_getElem? (i := 14) rfl)
theorem mw591 : Cond.instanceMethod yX9_clearBuffer ∈ wsL_law := mwr25 _ (List.mem_of_getElem? (i := 15) rfl)
theorem mw592 : Cond.selects RX9 yX9_clearBuffer yX9_clearBuffer ∈ wsL_law := mwr25 _ (List.mem_of_getElem? (i := 16) rfl)
theorem mw593 : Cond.code yX9_clearBuffer cX9_clearBuffer 2 (some .int) ∈ wsL_law := mwr25 _ (List.mem_of_getElem? (i := 17) rfl)
theorem mw594 : Cond.methodLink RL 129 yX10_clearBuffer ∈ wsL_law := mwr25 _ (List.mem_of_getElem? (i := 18) rfl)
theorem mw595 : Cond.instanceMethod yX10_clearBuffer ∈ wsL_law := mwr25 _ (List.mem_of_getElem? (i := 19) rfl)
theorem mw596 : Cond.selects RX10 yX10_clearBuffer yX10_clearBuffer ∈ wsL_law := mwr25 _ (List.mem_of_getElem? (i := 20) rfl)
theorem mw597 : Cond.code yX10_clearBuffer cX10_clearBuffer 2 (some .int) ∈ wsL_law := mwr25 _ (List.mem_of_getElem? (i := 21) rfl)
theorem mw598 : Cond.methodLink RL 130 yX9_firstError ∈ wsL_law := mwr25 _ (List.mem_of_getElem? (i := 22) rfl)
theorem mw599 : Cond.instanceMethod yX9_firstError ∈ wsL_law := mwr25 _ (List.mem_of_getElem? (i := 23) rfl)
theorem mw600 : Cond.selects RX9 yX9_firstError yX9_firstError ∈ wsL_law := mwr26 _ (List.mem_of_getElem? (i := 0) rfl)
theorem mw601 : Cond.code yX9_firstError cX9_firstError 1 (some .int) ∈ wsL_law := mwr26 _ (List.mem_of_getElem? (i := 1) rfl)
theorem mw602 : Cond.instanceMethod yX7_read ∈ wsL_law := mwr26 _ (List.mem_of_getElem? (i := 2) rfl)
theorem mw603 : Cond.selects RX7 yX7_read yX7_read ∈ wsL_law := mwr26 _ (List.mem_of_getElem? (i := 3) rfl)
theorem mw604 : Cond.code yX7_read cX7_read 4 (some .int) ∈ wsL_law := mwr26 _ (List.mem_of_getElem? (i := 4) rfl)
theorem mw605 : Cond.fieldLink RX7 18 "PolarPlanimeter$TextReader" "latest" "I" ∈ wsL_law := mwr26 _ (List.mem_of_getElem? (i := 5) rfl)
theorem mw606 : Cond.fieldLink RX7 22 "PolarPlanimeter$TextReader" "atY" "Z" ∈ wsL_law := mwr26 _ (List.mem_of_getElem? (i := 6) rfl)
theorem mw607 : Cond.methodLink RX7 26 yX7_beginNumber ∈ wsL_law := mwr26 _ (List.mem_of_getElem? (i := 7) rfl)
theorem mw608 : Cond.instanceMethod yX7_beginNumber ∈ wsL_law := mwr26 _ (List.mem_of_getElem? (i := 8) rfl)
theorem mw609 : Cond.selects RX7 yX7_beginNumber yX7_beginNumber ∈ wsL_law := mwr26 _ (List.mem_of_getElem? (i := 9) rfl)
theorem mw610 : Cond.code yX7_beginNumber cX7_beginNumber 1 none ∈ wsL_law := mwr26 _ (List.mem_of_getElem? (i := 10) rfl)
theorem mw611 : Cond.fieldLink RX7 33 "PolarPlanimeter$TextReader" "place" "I" ∈ wsL_law := mwr26 _ (List.mem_of_getElem? (i := 11) rfl)
theorem mw612 : Cond.fieldLink RX7 45 "PolarPlanimeter$TextReader" "negative" "Z" ∈ wsL_law := mwr26 _ (List.mem_of_getElem? (i := 12) rfl)
theorem mw613 : Cond.fieldLink RX7 48 "PolarPlanimeter$TextReader" "size" "I" ∈ wsL_law := mwr26 _ (List.mem_of_getElem? (i := 13) rfl)
theorem mw614 : Cond.methodLink RX7 29 yX7_accept ∈ wsL_law := mwr26 _ (List.mem_of_getElem? (i := 14) rfl)
theorem mw615 : Cond.instanceMethod yX7_accept ∈ wsL_law := mwr26 _ (List.mem_of_getElem? (i := 15) rfl)
theorem mw616 : Cond.selects RX7 yX7_accept yX7_accept ∈ wsL_law := mwr26 _ (List.mem_of_getElem? (i := 16) rfl)
theorem mw617 : Cond.code yX7_accept cX7_accept 2 (some .boolean) ∈ wsL_law := mwr26 _ (List.mem_of_getElem? (i := 17) rfl)
theorem mw618 : Cond.methodLink RX7 51 yX7_acceptMinus ∈ wsL_law := mwr26 _ (List.mem_of_getElem? (i := 18) rfl)
theorem mw619 : Cond.instanceMethod yX7_acceptMinus ∈ wsL_law := mwr26 _ (List.mem_of_getElem? (i := 19) rfl)
theorem mw620 : Cond.selects RX7 yX7_acceptMinus yX7_acceptMinus ∈ wsL_law := mwr26 _ (List.mem_of_getElem? (i := 20) rfl)
theorem mw621 : Cond.code yX7_acceptMinus cX7_acceptMinus 1 (some .boolean) ∈ wsL_law := mwr26 _ (List.mem_of_getElem? (i := 21) rfl)
theorem mw622 : Cond.methodLink RX7 55 yX7_acceptComma ∈ wsL_law := mwr26 _ (List.mem_of_getElem? (i := 22) rfl)
theorem mw623 : Cond.instanceMethod yX7_acceptComma ∈ wsL_law := mwr26 _ (List.mem_of_getElem? (i := 23) rfl)
theorem mw624 : Cond.selects RX7 yX7_acceptComma yX7_acceptComma ∈ wsL_law := mwr27 _ (List.mem_of_getElem? (i := 0) rfl)
theorem mw625 : Cond.code yX7_acceptComma cX7_acceptComma 1 (some .boolean) ∈ wsL_law := mwr27 _ (List.mem_of_getElem? (i := 1) rfl)
theorem mw626 : Cond.methodLink RX7 58 yX7_acceptSemicolon ∈ wsL_law := mwr27 _ (List.mem_of_getElem? (i := 2) rfl)
theorem mw627 : Cond.instanceMethod yX7_acceptSemicolon ∈ wsL_law := mwr27 _ (List.mem_of_getElem? (i := 3) rfl)
theorem mw628 : Cond.selects RX7 yX7_acceptSemicolon yX7_acceptSemicolon ∈ wsL_law := mwr27 _ (List.mem_of_getElem? (i := 4) rfl)
theorem mw629 : Cond.code yX7_acceptSemicolon cX7_acceptSemicolon 1 (some .boolean) ∈ wsL_law := mwr27 _ (List.mem_of_getElem? (i := 5) rfl)
theorem mw630 : Cond.methodLink RX7 61 yX7_acceptDigit ∈ wsL_law := mwr27 _ (List.mem_of_getElem? (i := 6) rfl)
theorem mw631 : Cond.instanceMethod yX7_acceptDigit ∈ wsL_law := mwr27 _ (List.mem_of_getElem? (i := 7) rfl)
theorem mw632 : Cond.selects RX7 yX7_acceptDigit yX7_acceptDigit ∈ wsL_law := mwr27 _ (List.mem_of_getElem? (i := 8) rfl)
theorem mw633 : Cond.code yX7_acceptDigit cX7_acceptDigit 5 (some .boolean) ∈ wsL_law := mwr27 _ (List.mem_of_getElem? (i := 9) rfl)
theorem mw634 : Cond.methodLink RX7 64 yX7_keepNumber ∈ wsL_law := mwr27 _ (List.mem_of_getElem? (i := 10) rfl)
theorem mw635 : Cond.instanceMethod yX7_keepNumber ∈ wsL_law := mwr27 _ (List.mem_of_getElem? (i := 11) rfl)
theorem mw636 : Cond.selects RX7 yX7_keepNumber yX7_keepNumber ∈ wsL_law := mwr27 _ (List.mem_of_getElem? (i := 12) rfl)
theorem mw637 : Cond.code yX7_keepNumber cX7_keepNumber 2 none ∈ wsL_law := mwr27 _ (List.mem_of_getElem? (i := 13) rfl)
theorem mw638 : Cond.methodLink RL 133 yX10_firstError ∈ wsL_law := mwr27 _ (List.mem_of_getElem? (i := 14) rfl)
theorem mw639 : Cond.instanceMethod yX10_firstError ∈ wsL_law := mwr27 _ (List.mem_of_getElem? (i := 15) rfl)
theorem mw640 : Cond.selects RX10 yX10_firstError yX10_firstError ∈ wsL_law := mwr27 _ (List.mem_of_getElem? (i := 16) rfl)
theorem mw641 : Cond.code yX10_firstError cX10_firstError 1 (some .int) ∈ wsL_law := mwr27 _ (List.mem_of_getElem? (i := 17) rfl)
theorem mw642 : Cond.methodLink RX10 267 yX10_readText ∈ wsL_law := mwr27 _ (List.mem_of_getElem? (i := 18) rfl)
theorem mw643 : Cond.instanceMethod yX10_readText ∈ wsL_law := mwr27 _ (List.mem_of_getElem? (i := 19) rfl)
theorem mw644 : Cond.selects RX10 yX10_readText yX10_readText ∈ wsL_law := mwr27 _ (List.mem_of_getElem? (i := 20) rfl)
theorem mw645 : Cond.code yX10_readText cX10_readText 2 (some .int) ∈ wsL_law := mwr27 _ (List.mem_of_getElem? (i := 21) rfl)
theorem mw646 : Cond.fieldLink RX10 239 "PolarPlanimeterModel" "step" "I" ∈ wsL_law := mwr27 _ (List.mem_of_getElem? (i := 22) rfl)
theorem mw647 : Cond.fieldLink RX10 255 "PolarPlanimeterModel" "numbers" "I" ∈ wsL_law := mwr27 _ (List.mem_of_getElem? (i := 23) rfl)
theorem mw648 : Cond.methodLink RX10 261 yX10_goesOn ∈ wsL_law := mwr28 _ (List.mem_of_getElem? (i := 0) rfl)
theorem mw649 : Cond.instanceMethod yX10_goesOn ∈ wsL_law := mwr28 _ (List.mem_of_getElem? (i := 1) rfl)
theorem mw650 : Cond.selects RX10 yX10_goesOn yX10_goesOn ∈ wsL_law := mwr28 _ (List.mem_of_getElem? (i := 2) rfl)
theorem mw651 : Cond.code yX10_goesOn cX10_goesOn 5 (some .boolean) ∈ wsL_law := mwr28 _ (List.mem_of_getElem? (i := 3) rfl)
theorem mw652 : Cond.fieldLink RX10 252 "PolarPlanimeterModel" "number" "I" ∈ wsL_law := mwr28 _ (List.mem_of_getElem? (i := 4) rfl)
theorem mw653 : Cond.constantLong RX10 246 (48) ∈ wsL_law := mwr28 _ (List.mem_of_getElem? (i := 5) rfl)
theorem mw654 : Cond.constantLong RX10 250 (57) ∈ wsL_law := mwr28 _ (List.mem_of_getElem? (i := 6) rfl)
theorem mw655 : Cond.methodLink RX10 258 yX10_endNumber ∈ wsL_law := mwr28 _ (List.mem_of_getElem? (i := 7) rfl)
theorem mw656 : Cond.instanceMethod yX10_endNumber ∈ wsL_law := mwr28 _ (List.mem_of_getElem? (i := 8) rfl)
theorem mw657 : Cond.selects RX10 yX10_endNumber yX10_endNumber ∈ wsL_law := mwr28 _ (List.mem_of_getElem? (i := 9) rfl)
theorem mw658 : Cond.code yX10_endNumber cX10_endNumber 1 none ∈ wsL_law := mwr28 _ (List.mem_of_getElem? (i := 10) rfl)
theorem mw659 : Cond.fieldLink RX10 242 "PolarPlanimeterModel" "isBelow" "Z" ∈ wsL_law := mwr28 _ (List.mem_of_getElem? (i := 11) rfl)
theorem mw660 : Cond.methodLink RX10 264 yX10_begins ∈ wsL_law := mwr28 _ (List.mem_of_getElem? (i := 12) rfl)
theorem mw661 : Cond.instanceMethod yX10_begins ∈ wsL_law := mwr28 _ (List.mem_of_getElem? (i := 13) rfl)
theorem mw662 : Cond.selects RX10 yX10_begins yX10_begins ∈ wsL_law := mwr28 _ (List.mem_of_getElem? (i := 14) rfl)
theorem mw663 : Cond.code yX10_begins cX10_begins 3 (some .boolean) ∈ wsL_law := mwr28 _ (List.mem_of_getElem? (i := 15) rfl)
theorem mw664 : Cond.constantLong RX10 248 (49) ∈ wsL_law := mwr28 _ (List.mem_of_getElem? (i := 16) rfl)
theorem mw665 : Cond.methodLink RL 134 yL_load ∈ wsL_law := mwr28 _ (List.mem_of_getElem? (i := 17) rfl)
theorem mw666 : Cond.static yL_load ∈ wsL_law := mwr28 _ (List.mem_of_getElem? (i := 18) rfl)
theorem mw667 : Cond.codeWith yL_load cL_load 3 (some .int) [(0, 8, 11, 13)] ∈ wsL_law := mwr28 _ (List.mem_of_getElem? (i := 19) rfl)
theorem mw668 : Cond.methodLink RL 46 yX9_load ∈ wsL_law := mwr28 _ (List.mem_of_getElem? (i := 20) rfl)
theorem mw669 : Cond.instanceMethod yX9_load ∈ wsL_law := mwr28 _ (List.mem_of_getElem? (i := 21) rfl)
theorem mw670 : Cond.selects RX9 yX9_load yX9_load ∈ wsL_law := mwr28 _ (List.mem_of_getElem? (i := 22) rfl)
theorem mw671 : Cond.code yX9_load cX9_load 2 (some .int) ∈ wsL_law := mwr28 _ (List.mem_of_getElem? (i := 23) rfl)
theorem mw672 : Cond.instanceMethod yX7_isComplete ∈ wsL_law := mwr29 _ (List.mem_of_getElem? (i := 0) rfl)
theorem mw673 : Cond.selects RX7 yX7_isComplete yX7_isComplete ∈ wsL_law := mwr29 _ (List.mem_of_getElem? (i := 1) rfl)
theorem mw674 : Cond.code yX7_isComplete cX7_isComplete 1 (some .boolean) ∈ wsL_law := mwr29 _ (List.mem_of_getElem? (i := 2) rfl)
theorem mw675 : Cond.instanceMethod yX7_putInto ∈ wsL_law := mwr29 _ (List.mem_of_getElem? (i := 3) rfl)
theorem mw676 : Cond.selects RX7 yX7_putInto yX7_putInto ∈ wsL_law := mwr29 _ (List.mem_of_getElem? (i := 4) rfl)
theorem mw677 : Cond.code yX7_putInto cX7_putInto 3 none ∈ wsL_law := mwr29 _ (List.mem_of_getElem? (i := 5) rfl)
theorem mw678 : Cond.methodLink RL 137 yX10_load ∈ wsL_law := mwr29 _ (List.mem_of_getElem? (i := 6) rfl)
theorem mw679 : Cond.instanceMethod yX10_load ∈ wsL_law := mwr29 _ (List.mem_of_getElem? (i := 7) rfl)
theorem mw680 : Cond.selects RX10 yX10_load yX10_load ∈ wsL_law := mwr29 _ (List.mem_of_getElem? (i := 8) rfl)
theorem mw681 : Cond.code yX10_load cX10_load 3 (some .int) ∈ wsL_law := mwr29 _ (List.mem_of_getElem? (i := 9) rfl)
theorem mw682 : Cond.methodLink RL 138 yL_undo ∈ wsL_law := mwr29 _ (List.mem_of_getElem? (i := 10) rfl)
theorem mw683 : Cond.static yL_undo ∈ wsL_law := mwr29 _ (List.mem_of_getElem? (i := 11) rfl)
theorem mw684 : Cond.codeWith yL_undo cL_undo 3 (some .int) [(0, 8, 11, 28)] ∈ wsL_law := mwr29 _ (List.mem_of_getElem? (i := 12) rfl)
theorem mw685 : Cond.methodLink RL 50 yX9_undo ∈ wsL_law := mwr29 _ (List.mem_of_getElem? (i := 13) rfl)
theorem mw686 : Cond.instanceMethod yX9_undo ∈ wsL_law := mwr29 _ (List.mem_of_getElem? (i := 14) rfl)
theorem mw687 : Cond.selects RX9 yX9_undo yX9_undo ∈ wsL_law := mwr29 _ (List.mem_of_getElem? (i := 15) rfl)
theorem mw688 : Cond.code yX9_undo cX9_undo 1 (some .int) ∈ wsL_law := mwr29 _ (List.mem_of_getElem? (i := 16) rfl)
theorem mw689 : Cond.instanceMethod yX2_restore ∈ wsL_law := mwr29 _ (List.mem_of_getElem? (i := 17) rfl)
theorem mw690 : Cond.selects RX2 yX2_restore yX2_restore ∈ wsL_law := mwr29 _ (List.mem_of_getElem? (i := 18) rfl)
theorem mw691 : Cond.code yX2_restore cX2_restore 2 none ∈ wsL_law := mwr29 _ (List.mem_of_getElem? (i := 19) rfl)
theorem mw692 : Cond.methodLink RL 140 yX10_undo ∈ wsL_law := mwr29 _ (List.mem_of_getElem? (i := 20) rfl)
theorem mw693 : Cond.instanceMethod yX10_undo ∈ wsL_law := mwr29 _ (List.mem_of_getElem? (i := 21) rfl)
theorem mw694 : Cond.selects RX10 yX10_undo yX10_undo ∈ wsL_law := mwr29 _ (List.mem_of_getElem? (i := 22) rfl)
theorem mw695 : Cond.code yX10_undo cX10_undo 2 (some .int) ∈ wsL_law := mwr29 _ (List.mem_of_getElem? (i := 23) rfl)
theorem mw696 : Cond.methodLink RL 141 yX9_reason ∈ wsL_law := mwr30 _ (List.mem_of_getElem? (i := 0) rfl)
theorem mw697 : Cond.instanceMethod yX9_reason ∈ wsL_law := mwr30 _ (List.mem_of_getElem? (i := 1) rfl)
theorem mw698 : Cond.selects RX9 yX9_reason yX9_reason ∈ wsL_law := mwr30 _ (List.mem_of_getElem? (i := 2) rfl)
theorem mw699 : Cond.code yX9_reason cX9_reason 1 (some .int) ∈ wsL_law := mwr30 _ (List.mem_of_getElem? (i := 3) rfl)
theorem mw700 : Cond.methodLink RL 144 yX10_reason ∈ wsL_law := mwr30 _ (List.mem_of_getElem? (i := 4) rfl)
theorem mw701 : Cond.instanceMethod yX10_reason ∈ wsL_law := mwr30 _ (List.mem_of_getElem? (i := 5) rfl)
theorem mw702 : Cond.selects RX10 yX10_reason yX10_reason ∈ wsL_law := mwr30 _ (List.mem_of_getElem? (i := 6) rfl)
theorem mw703 : Cond.code yX10_reason cX10_reason 1 (some .int) ∈ wsL_law := mwr30 _ (List.mem_of_getElem? (i := 7) rfl)
theorem mw704 : Cond.methodLink RL 145 yL_corner ∈ wsL_law := mwr30 _ (List.mem_of_getElem? (i := 8) rfl)
theorem mw705 : Cond.static yL_corner ∈ wsL_law := mwr30 _ (List.mem_of_getElem? (i := 9) rfl)
theorem mw706 : Cond.codeWith yL_corner cL_corner 5 (some .int) [(0, 9, 12, 18), (0, 9, 16, 13)] ∈ wsL_law := mwr30 _ (List.mem_of_getElem? (i := 10) rfl)
theorem mw707 : Cond.methodLink RL 53 yX9_corner ∈ wsL_law := mwr30 _ (List.mem_of_getElem? (i := 11) rfl)
theorem mw708 : Cond.instanceMethod yX9_corner ∈ wsL_law := mwr30 _ (List.mem_of_getElem? (i := 12) rfl)
theorem mw709 : Cond.selects RX9 yX9_corner yX9_corner ∈ wsL_law := mwr30 _ (List.mem_of_getElem? (i := 13) rfl)
theorem mw710 : Cond.code yX9_corner cX9_corner 3 (some .long) ∈ wsL_law := mwr30 _ (List.mem_of_getElem? (i := 14) rfl)
theorem mw711 : Cond.methodLink RX9 192 yX9_checkWhat ∈ wsL_law := mwr30 _ (List.mem_of_getElem? (i := 15) rfl)
theorem mw712 : Cond.static yX9_checkWhat ∈ wsL_law := mwr30 _ (List.mem_of_getElem? (i := 16) rfl)
theorem mw713 : Cond.code yX9_checkWhat cX9_checkWhat 2 none ∈ wsL_law := mwr30 _ (List.mem_of_getElem? (i := 17) rfl)
theorem mw714 : Cond.methodLink RX9 195 yX9_cornerProperty ∈ wsL_law := mwr30 _ (List.mem_of_getElem? (i := 18) rfl)
theorem mw715 : Cond.instanceMethod yX9_cornerProperty ∈ wsL_law := mwr30 _ (List.mem_of_getElem? (i := 19) rfl)
theorem mw716 : Cond.selects RX9 yX9_cornerProperty yX9_cornerProperty ∈ wsL_law := mwr30 _ (List.mem_of_getElem? (i := 20) rfl)
theorem mw717 : Cond.code yX9_cornerProperty cX9_cornerProperty 4 (some .long) ∈ wsL_law := mwr30 _ (List.mem_of_getElem? (i := 21) rfl)
theorem mw718 : Cond.methodLink RX9 286 yX9_isSegmentInReach ∈ wsL_law := mwr30 _ (List.mem_of_getElem? (i := 22) rfl)
theorem mw719 : Cond.instanceMethod yX9_isSegmentInReach ∈ wsL_law := mwr30 _ (List.mem_of_getElem? (i := 23) rfl)
theorem mw720 : Cond.selects RX9 yX9_isSegmentInReach yX9_isSegmentInReach ∈ wsL_law := mwr31 _ (List.mem_of_getElem? (i := 0) rfl)
theorem mw721 : Cond.code yX9_isSegmentInReach cX9_isSegmentInReach 2 (some .boolean) ∈ wsL_law := mwr31 _ (List.mem_of_getElem? (i := 1) rfl)
theorem mw722 : Cond.instanceMethod yX1_measureOne ∈ wsL_law := mwr31 _ (List.mem_of_getElem? (i := 2) rfl)
theorem mw723 : Cond.selects RX1 yX1_measureOne yX1_measureOne ∈ wsL_law := mwr31 _ (List.mem_of_getElem? (i := 3) rfl)
theorem mw724 : Cond.code yX1_measureOne cX1_measureOne 3 none ∈ wsL_law := mwr31 _ (List.mem_of_getElem? (i := 4) rfl)
theorem mw725 : Cond.instanceMethod yX1_roll ∈ wsL_law := mwr31 _ (List.mem_of_getElem? (i := 5) rfl)
theorem mw726 : Cond.selects RX1 yX1_roll yX1_roll ∈ wsL_law := mwr31 _ (List.mem_of_getElem? (i := 6) rfl)
theorem mw727 : Cond.code yX1_roll cX1_roll 8 (some .long) ∈ wsL_law := mwr31 _ (List.mem_of_getElem? (i := 7) rfl)
theorem mw728 : Cond.methodLink RL 147 yX10_corner ∈ wsL_law := mwr31 _ (List.mem_of_getElem? (i := 8) rfl)
theorem mw729 : Cond.instanceMethod yX10_corner ∈ wsL_law := mwr31 _ (List.mem_of_getElem? (i := 9) rfl)
theorem mw730 : Cond.selects RX10 yX10_corner yX10_corner ∈ wsL_law := mwr31 _ (List.mem_of_getElem? (i := 10) rfl)
theorem mw731 : Cond.code yX10_corner cX10_corner 3 (some .long) ∈ wsL_law := mwr31 _ (List.mem_of_getElem? (i := 11) rfl)
theorem mw732 : Cond.constantLong RX10 273 (5) ∈ wsL_law := mwr31 _ (List.mem_of_getElem? (i := 12) rfl)
theorem mw733 : Cond.methodLink RX10 275 yX10_cornerNow ∈ wsL_law := mwr31 _ (List.mem_of_getElem? (i := 13) rfl)
theorem mw734 : Cond.instanceMethod yX10_cornerNow ∈ wsL_law := mwr31 _ (List.mem_of_getElem? (i := 14) rfl)
theorem mw735 : Cond.selects RX10 yX10_cornerNow yX10_cornerNow ∈ wsL_law := mwr31 _ (List.mem_of_getElem? (i := 15) rfl)
theorem mw736 : Cond.code yX10_cornerNow cX10_cornerNow 3 (some .long) ∈ wsL_law := mwr31 _ (List.mem_of_getElem? (i := 16) rfl)
theorem mw737 : Cond.methodLink RX10 270 yX10_roll ∈ wsL_law := mwr31 _ (List.mem_of_getElem? (i := 17) rfl)
theorem mw738 : Cond.instanceMethod yX10_roll ∈ wsL_law := mwr31 _ (List.mem_of_getElem? (i := 18) rfl)
theorem mw739 : Cond.selects RX10 yX10_roll yX10_roll ∈ wsL_law := mwr31 _ (List.mem_of_getElem? (i := 19) rfl)
theorem mw740 : Cond.code yX10_roll cX10_roll 6 (some .long) ∈ wsL_law := mwr31 _ (List.mem_of_getElem? (i := 20) rfl)
theorem mw741 : Cond.methodLink RL 148 yL_made ∈ wsL_law := mwr31 _ (List.mem_of_getElem? (i := 21) rfl)
theorem mw742 : Cond.static yL_made ∈ wsL_law := mwr31 _ (List.mem_of_getElem? (i := 22) rfl)
theorem mw743 : Cond.codeWith yL_made cL_made 5 (some .int) [(0, 9, 12, 18), (0, 9, 16, 13)] ∈ wsL_law := mwr31 _ (List.mem_of_getElem? (i := 23) rfl)
theorem mw744 : Cond.methodLink RL 57 yX9_made ∈ wsL_law := mwr32 _ (List.mem_of_getElem? (i := 0) rfl)
theorem mw745 : Cond.instanceMethod yX9_made ∈ wsL_law := mwr32 _ (List.mem_of_getElem? (i := 1) rfl)
theorem mw746 : Cond.selects RX9 yX9_made yX9_made ∈ wsL_law := mwr32 _ (List.mem_of_getElem? (i := 2) rfl)
theorem mw747 : Cond.code yX9_made cX9_made 3 (some .long) ∈ wsL_law := mwr32 _ (List.mem_of_getElem? (i := 3) rfl)
theorem mw748 : Cond.methodLink RX9 201 yX9_runProperty ∈ wsL_law := mwr32 _ (List.mem_of_getElem? (i := 4) rfl)
theorem mw749 : Cond.instanceMethod yX9_runProperty ∈ wsL_law := mwr32 _ (List.mem_of_getElem? (i := 5) rfl)
theorem mw750 : Cond.selects RX9 yX9_runProperty yX9_runProperty ∈ wsL_law := mwr32 _ (List.mem_of_getElem? (i := 6) rfl)
theorem mw751 : Cond.code yX9_runProperty cX9_runProperty 4 (some .long) ∈ wsL_law := mwr32 _ (List.mem_of_getElem? (i := 7) rfl)
theorem mw752 : Cond.constantLong RX9 307 (512) ∈ wsL_law := mwr32 _ (List.mem_of_getElem? (i := 8) rfl)
theorem mw753 : Cond.instanceMethod yX6_constant ∈ wsL_law := mwr32 _ (List.mem_of_getElem? (i := 9) rfl)
theorem mw754 : Cond.selects RX6 yX6_constant yX6_constant ∈ wsL_law := mwr32 _ (List.mem_of_getElem? (i := 10) rfl)
theorem mw755 : Cond.code yX6_constant cX6_constant 3 (some .long) ∈ wsL_law := mwr32 _ (List.mem_of_getElem? (i := 11) rfl)
theorem mw756 : Cond.constantLong RX6 63 (355) ∈ wsL_law := mwr32 _ (List.mem_of_getElem? (i := 12) rfl)
theorem mw757 : Cond.constantLong RX6 65 (113) ∈ wsL_law := mwr32 _ (List.mem_of_getElem? (i := 13) rfl)
theorem mw758 : Cond.methodLink RX6 59 yX6_winding ∈ wsL_law := mwr32 _ (List.mem_of_getElem? (i := 14) rfl)
theorem mw759 : Cond.instanceMethod yX6_winding ∈ wsL_law := mwr32 _ (List.mem_of_getElem? (i := 15) rfl)
theorem mw760 : Cond.selects RX6 yX6_winding yX6_winding ∈ wsL_law := mwr32 _ (List.mem_of_getElem? (i := 16) rfl)
theorem mw761 : Cond.code yX6_winding cX6_winding 1 (some .long) ∈ wsL_law := mwr32 _ (List.mem_of_getElem? (i := 17) rfl)
theorem mw762 : Cond.instanceMethod yX4_windingAround ∈ wsL_law := mwr32 _ (List.mem_of_getElem? (i := 18) rfl)
theorem mw763 : Cond.selects RX4 yX4_windingAround yX4_windingAround ∈ wsL_law := mwr32 _ (List.mem_of_getElem? (i := 19) rfl)
theorem mw764 : Cond.code yX4_windingAround cX4_windingAround 6 (some .long) ∈ wsL_law := mwr32 _ (List.mem_of_getElem? (i := 20) rfl)
theorem mw765 : Cond.methodLink RX4 63 yX4_crossing ∈ wsL_law := mwr32 _ (List.mem_of_getElem? (i := 21) rfl)
theorem mw766 : Cond.instanceMethod yX4_crossing ∈ wsL_law := mwr32 _ (List.mem_of_getElem? (i := 22) rfl)
theorem mw767 : Cond.selects RX4 yX4_crossing yX4_crossing ∈ wsL_law := mwr32 _ (List.mem_of_getElem? (i := 23) rfl)
theorem mw768 : Cond.code yX4_crossing cX4_crossing 7 (some .int) ∈ wsL_law := mwr33 _ (List.mem_of_getElem? (i := 0) rfl)
theorem mw769 : Cond.instanceMethod yX5_area ∈ wsL_law := mwr33 _ (List.mem_of_getElem? (i := 1) rfl)
theorem mw770 : Cond.selects RX5 yX5_area yX5_area ∈ wsL_law := mwr33 _ (List.mem_of_getElem? (i := 2) rfl)
theorem mw771 : Cond.code yX5_area cX5_area 4 (some .long) ∈ wsL_law := mwr33 _ (List.mem_of_getElem? (i := 3) rfl)
theorem mw772 : Cond.constantLong RX5 27 (512) ∈ wsL_law := mwr33 _ (List.mem_of_getElem? (i := 4) rfl)
theorem mw773 : Cond.instanceMethod yX3_take ∈ wsL_law := mwr33 _ (List.mem_of_getElem? (i := 5) rfl)
theorem mw774 : Cond.selects RX3 yX3_take yX3_take ∈ wsL_law := mwr33 _ (List.mem_of_getElem? (i := 6) rfl)
theorem mw775 : Cond.code yX3_take cX3_take 5 none ∈ wsL_law := mwr33 _ (List.mem_of_getElem? (i := 7) rfl)
theorem mw776 : Cond.fieldLink RX3 34 "PolarPlanimeter$Mean" "runs" "I" ∈ wsL_law := mwr33 _ (List.mem_of_getElem? (i := 8) rfl)
theorem mw777 : Cond.fieldLink RX3 36 "PolarPlanimeter$Mean" "kept" "I" ∈ wsL_law := mwr33 _ (List.mem_of_getElem? (i := 9) rfl)
theorem mw778 : Cond.fieldLink RX3 61 "PolarPlanimeter$Mean" "value" "J" ∈ wsL_law := mwr33 _ (List.mem_of_getElem? (i := 10) rfl)
theorem mw779 : Cond.methodLink RX3 50 yX3_leaveOut ∈ wsL_law := mwr33 _ (List.mem_of_getElem? (i := 11) rfl)
theorem mw780 : Cond.instanceMethod yX3_leaveOut ∈ wsL_law := mwr33 _ (List.mem_of_getElem? (i := 12) rfl)
theorem mw781 : Cond.selects RX3 yX3_leaveOut yX3_leaveOut ∈ wsL_law := mwr33 _ (List.mem_of_getElem? (i := 13) rfl)
theorem mw782 : Cond.code yX3_leaveOut cX3_leaveOut 6 none ∈ wsL_law := mwr33 _ (List.mem_of_getElem? (i := 14) rfl)
theorem mw783 : Cond.methodLink RX3 72 Lib.MathLoose.abs_long.x ∈ wsL_law := mwr33 _ (List.mem_of_getElem? (i := 15) rfl)
theorem mw784 : Cond.methodLink RX3 65 yX3_middleOfKept ∈ wsL_law := mwr33 _ (List.mem_of_getElem? (i := 16) rfl)
theorem mw785 : Cond.instanceMethod yX3_middleOfKept ∈ wsL_law := mwr33 _ (List.mem_of_getElem? (i := 17) rfl)
theorem mw786 : Cond.selects RX3 yX3_middleOfKept yX3_middleOfKept ∈ wsL_law := mwr33 _ (List.mem_of_getElem? (i := 18) rfl)
theorem mw787 : Cond.code yX3_middleOfKept cX3_middleOfKept 3 (some .long) ∈ wsL_law := mwr33 _ (List.mem_of_getElem? (i := 19) rfl)
theorem mw788 : Cond.methodLink RX3 82 Lib.Math.max.name ∈ wsL_law := mwr33 _ (List.mem_of_getElem? (i := 20) rfl)
theorem mw789 : Cond.methodLink RX3 78 yX3_sortIn ∈ wsL_law := mwr33 _ (List.mem_of_getElem? (i := 21) rfl)
theorem mw790 : Cond.instanceMethod yX3_sortIn ∈ wsL_law := mwr33 _ (List.mem_of_getElem? (i := 22) rfl)
theorem mw791 : Cond.selects RX3 yX3_sortIn yX3_sortIn ∈ wsL_law := mwr33 _ (List.mem_of_getElem? (i := 23) rfl)
theorem mw792 : Cond.code yX3_sortIn cX3_sortIn 5 none ∈ wsL_law := mwr34 _ (List.mem_of_getElem? (i := 0) rfl)
theorem mw793 : Cond.methodLink RX3 68 yX3_farthestFrom ∈ wsL_law := mwr34 _ (List.mem_of_getElem? (i := 1) rfl)
theorem mw794 : Cond.instanceMethod yX3_farthestFrom ∈ wsL_law := mwr34 _ (List.mem_of_getElem? (i := 2) rfl)
theorem mw795 : Cond.selects RX3 yX3_farthestFrom yX3_farthestFrom ∈ wsL_law := mwr34 _ (List.mem_of_getElem? (i := 3) rfl)
theorem mw796 : Cond.code yX3_farthestFrom cX3_farthestFrom 9 (some .int) ∈ wsL_law := mwr34 _ (List.mem_of_getElem? (i := 4) rfl)
theorem mw797 : Cond.constantLong RX3 86 (-1) ∈ wsL_law := mwr34 _ (List.mem_of_getElem? (i := 5) rfl)
theorem mw798 : Cond.methodLink RX3 54 yX3_sumOfKept ∈ wsL_law := mwr34 _ (List.mem_of_getElem? (i := 6) rfl)
theorem mw799 : Cond.instanceMethod yX3_sumOfKept ∈ wsL_law := mwr34 _ (List.mem_of_getElem? (i := 7) rfl)
theorem mw800 : Cond.selects RX3 yX3_sumOfKept yX3_sumOfKept ∈ wsL_law := mwr34 _ (List.mem_of_getElem? (i := 8) rfl)
theorem mw801 : Cond.code yX3_sumOfKept cX3_sumOfKept 4 (some .long) ∈ wsL_law := mwr34 _ (List.mem_of_getElem? (i := 9) rfl)
theorem mw802 : Cond.methodLink RL 150 yX10_made ∈ wsL_law := mwr34 _ (List.mem_of_getElem? (i := 10) rfl)
theorem mw803 : Cond.instanceMethod yX10_made ∈ wsL_law := mwr34 _ (List.mem_of_getElem? (i := 11) rfl)
theorem mw804 : Cond.selects RX10 yX10_made yX10_made ∈ wsL_law := mwr34 _ (List.mem_of_getElem? (i := 12) rfl)
theorem mw805 : Cond.code yX10_made cX10_made 3 (some .long) ∈ wsL_law := mwr34 _ (List.mem_of_getElem? (i := 13) rfl)
theorem mw806 : Cond.methodLink RX10 278 yX10_madeNow ∈ wsL_law := mwr34 _ (List.mem_of_getElem? (i := 14) rfl)
theorem mw807 : Cond.instanceMethod yX10_madeNow ∈ wsL_law := mwr34 _ (List.mem_of_getElem? (i := 15) rfl)
theorem mw808 : Cond.selects RX10 yX10_madeNow yX10_madeNow ∈ wsL_law := mwr34 _ (List.mem_of_getElem? (i := 16) rfl)
theorem mw809 : Cond.code yX10_madeNow cX10_madeNow 3 (some .long) ∈ wsL_law := mwr34 _ (List.mem_of_getElem? (i := 17) rfl)
theorem mw810 : Cond.methodLink RX10 164 yX10_areaOf ∈ wsL_law := mwr34 _ (List.mem_of_getElem? (i := 18) rfl)
theorem mw811 : Cond.instanceMethod yX10_areaOf ∈ wsL_law := mwr34 _ (List.mem_of_getElem? (i := 19) rfl)
theorem mw812 : Cond.selects RX10 yX10_areaOf yX10_areaOf ∈ wsL_law := mwr34 _ (List.mem_of_getElem? (i := 20) rfl)
theorem mw813 : Cond.code yX10_areaOf cX10_areaOf 2 (some .long) ∈ wsL_law := mwr34 _ (List.mem_of_getElem? (i := 21) rfl)
theorem mw814 : Cond.methodLink RX10 158 yX10_constant ∈ wsL_law := mwr34 _ (List.mem_of_getElem? (i := 22) rfl)
theorem mw815 : Cond.instanceMethod yX10_constant ∈ wsL_law := mwr34 _ (List.mem_of_getElem? (i := 23) rfl)
theorem mw816 : Cond.selects RX10 yX10_constant yX10_constant ∈ wsL_law := mwr35 _ (List.mem_of_getElem? (i := 0) rfl)
theorem mw817 : Cond.code yX10_constant cX10_constant 1 (some .long) ∈ wsL_law := mwr35 _ (List.mem_of_getElem? (i := 1) rfl)
theorem mw818 : Cond.constantLong RX10 142 (355) ∈ wsL_law := mwr35 _ (List.mem_of_getElem? (i := 2) rfl)
theorem mw819 : Cond.constantLong RX10 144 (113) ∈ wsL_law := mwr35 _ (List.mem_of_getElem? (i := 3) rfl)
theorem mw820 : Cond.methodLink RX10 138 yX10_winding ∈ wsL_law := mwr35 _ (List.mem_of_getElem? (i := 4) rfl)
theorem mw821 : Cond.instanceMethod yX10_winding ∈ wsL_law := mwr35 _ (List.mem_of_getElem? (i := 5) rfl)
theorem mw822 : Cond.selects RX10 yX10_winding yX10_winding ∈ wsL_law := mwr35 _ (List.mem_of_getElem? (i := 6) rfl)
theorem mw823 : Cond.code yX10_winding cX10_winding 8 (some .long) ∈ wsL_law := mwr35 _ (List.mem_of_getElem? (i := 7) rfl)
theorem mw824 : Cond.constantLong RX10 136 (-1) ∈ wsL_law := mwr35 _ (List.mem_of_getElem? (i := 8) rfl)
theorem mw825 : Cond.methodLink RX10 170 yX10_layMean ∈ wsL_law := mwr35 _ (List.mem_of_getElem? (i := 9) rfl)
theorem mw826 : Cond.instanceMethod yX10_layMean ∈ wsL_law := mwr35 _ (List.mem_of_getElem? (i := 10) rfl)
theorem mw827 : Cond.selects RX10 yX10_layMean yX10_layMean ∈ wsL_law := mwr35 _ (List.mem_of_getElem? (i := 11) rfl)
theorem mw828 : Cond.code yX10_layMean cX10_layMean 10 none ∈ wsL_law := mwr35 _ (List.mem_of_getElem? (i := 12) rfl)
theorem mw829 : Cond.methodLink RX10 161 yX10_left ∈ wsL_law := mwr35 _ (List.mem_of_getElem? (i := 13) rfl)
theorem mw830 : Cond.instanceMethod yX10_left ∈ wsL_law := mwr35 _ (List.mem_of_getElem? (i := 14) rfl)
theorem mw831 : Cond.selects RX10 yX10_left yX10_left ∈ wsL_law := mwr35 _ (List.mem_of_getElem? (i := 15) rfl)
theorem mw832 : Cond.code yX10_left cX10_left 3 (some .int) ∈ wsL_law := mwr35 _ (List.mem_of_getElem? (i := 16) rfl)
theorem mw833 : Cond.methodLink RX10 167 yX10_middle ∈ wsL_law := mwr35 _ (List.mem_of_getElem? (i := 17) rfl)
theorem mw834 : Cond.instanceMethod yX10_middle ∈ wsL_law := mwr35 _ (List.mem_of_getElem? (i := 18) rfl)
theorem mw835 : Cond.selects RX10 yX10_middle yX10_middle ∈ wsL_law := mwr35 _ (List.mem_of_getElem? (i := 19) rfl)
theorem mw836 : Cond.code yX10_middle cX10_middle 6 (some .long) ∈ wsL_law := mwr35 _ (List.mem_of_getElem? (i := 20) rfl)
theorem mw837 : Cond.methodLink RL 151 yL_elbow ∈ wsL_law := mwr35 _ (List.mem_of_getElem? (i := 21) rfl)
theorem mw838 : Cond.static yL_elbow ∈ wsL_law := mwr35 _ (List.mem_of_getElem? (i := 22) rfl)
theorem mw839 : Cond.codeWith yL_elbow cL_elbow 6 (some .int) [(0, 11, 14, 13)] ∈ wsL_law := mwr35 _ (List.mem_of_getElem? (i := 23) rfl)
theorem mw840 : Cond.methodLink RL 60 yX9_elbow ∈ wsL_law := mwr36 _ (List.mem_of_getElem? (i := 0) rfl)
theorem mw841 : Cond.instanceMethod yX9_elbow ∈ wsL_law := mwr36 _ (List.mem_of_getElem? (i := 1) rfl)
theorem mw842 : Cond.selects RX9 yX9_elbow yX9_elbow ∈ wsL_law := mwr36 _ (List.mem_of_getElem? (i := 2) rfl)
theorem mw843 : Cond.code yX9_elbow cX9_elbow 6 (some .long) ∈ wsL_law := mwr36 _ (List.mem_of_getElem? (i := 3) rfl)
theorem mw844 : Cond.constant RX9 204 (40000) ∈ wsL_law := mwr36 _ (List.mem_of_getElem? (i := 4) rfl)
theorem mw845 : Cond.methodLink RL 153 yX10_elbow ∈ wsL_law := mwr36 _ (List.mem_of_getElem? (i := 5) rfl)
theorem mw846 : Cond.instanceMethod yX10_elbow ∈ wsL_law := mwr36 _ (List.mem_of_getElem? (i := 6) rfl)
theorem mw847 : Cond.selects RX10 yX10_elbow yX10_elbow ∈ wsL_law := mwr36 _ (List.mem_of_getElem? (i := 7) rfl)
theorem mw848 : Cond.code yX10_elbow cX10_elbow 4 (some .long) ∈ wsL_law := mwr36 _ (List.mem_of_getElem? (i := 8) rfl)
theorem mw849 : Cond.constantLong RX10 281 (-40000) ∈ wsL_law := mwr36 _ (List.mem_of_getElem? (i := 9) rfl)
theorem mw850 : Cond.constantLong RX10 283 (40000) ∈ wsL_law := mwr36 _ (List.mem_of_getElem? (i := 10) rfl)
theorem mw851 : Cond.methodLink RX10 285 yX10_elbowNow ∈ wsL_law := mwr36 _ (List.mem_of_getElem? (i := 11) rfl)
theorem mw852 : Cond.instanceMethod yX10_elbowNow ∈ wsL_law := mwr36 _ (List.mem_of_getElem? (i := 12) rfl)
theorem mw853 : Cond.selects RX10 yX10_elbowNow yX10_elbowNow ∈ wsL_law := mwr36 _ (List.mem_of_getElem? (i := 13) rfl)
theorem mw854 : Cond.code yX10_elbowNow cX10_elbowNow 6 (some .long) ∈ wsL_law := mwr36 _ (List.mem_of_getElem? (i := 14) rfl)
theorem mw855 : Cond.methodLink RL 154 yL_count ∈ wsL_law := mwr36 _ (List.mem_of_getElem? (i := 15) rfl)
theorem mw856 : Cond.static yL_count ∈ wsL_law := mwr36 _ (List.mem_of_getElem? (i := 16) rfl)
theorem mw857 : Cond.codeWith yL_count cL_count 4 (some .int) [(0, 8, 11, 13)] ∈ wsL_law := mwr36 _ (List.mem_of_getElem? (i := 17) rfl)
theorem mw858 : Cond.methodLink RL 64 yX9_count ∈ wsL_law := mwr36 _ (List.mem_of_getElem? (i := 18) rfl)
theorem mw859 : Cond.instanceMethod yX9_count ∈ wsL_law := mwr36 _ (List.mem_of_getElem? (i := 19) rfl)
theorem mw860 : Cond.selects RX9 yX9_count yX9_count ∈ wsL_law := mwr36 _ (List.mem_of_getElem? (i := 20) rfl)
theorem mw861 : Cond.code yX9_count cX9_count 2 (some .long) ∈ wsL_law := mwr36 _ (List.mem_of_getElem? (i := 21) rfl)
theorem mw862 : Cond.methodLink RX9 227 yX9_number ∈ wsL_law := mwr36 _ (List.mem_of_getElem? (i := 22) rfl)
theorem mw863 : Cond.instanceMethod yX9_number ∈ wsL_law := mwr36 _ (List.mem_of_getElem? (i := 23) rfl)
theorem mw864 : Cond.selects RX9 yX9_number yX9_number ∈ wsL_law := mwr37 _ (List.mem_of_getElem? (i := 0) rfl)
theorem mw865 : Cond.code yX9_number cX9_number 2 (some .long) ∈ wsL_law := mwr37 _ (List.mem_of_getElem? (i := 1) rfl)
theorem mw866 : Cond.instanceMethod yX4_twiceArea ∈ wsL_law := mwr37 _ (List.mem_of_getElem? (i := 2) rfl)
theorem mw867 : Cond.selects RX4 yX4_twiceArea yX4_twiceArea ∈ wsL_law := mwr37 _ (List.mem_of_getElem? (i := 3) rfl)
theorem mw868 : Cond.code yX4_twiceArea cX4_twiceArea 5 (some .long) ∈ wsL_law := mwr37 _ (List.mem_of_getElem? (i := 4) rfl)
theorem mw869 : Cond.instanceMethod yX4_area ∈ wsL_law := mwr37 _ (List.mem_of_getElem? (i := 5) rfl)
theorem mw870 : Cond.selects RX4 yX4_area yX4_area ∈ wsL_law := mwr37 _ (List.mem_of_getElem? (i := 6) rfl)
theorem mw871 : Cond.code yX4_area cX4_area 1 (some .long) ∈ wsL_law := mwr37 _ (List.mem_of_getElem? (i := 7) rfl)
theorem mw872 : Cond.constantLong RX4 61 (2) ∈ wsL_law := mwr37 _ (List.mem_of_getElem? (i := 8) rfl)
theorem mw873 : Cond.methodLink RX4 57 yX4_twiceArea ∈ wsL_law := mwr37 _ (List.mem_of_getElem? (i := 9) rfl)
theorem mw874 : Cond.methodLink RX9 251 yX9_meanMinusArea ∈ wsL_law := mwr37 _ (List.mem_of_getElem? (i := 10) rfl)
theorem mw875 : Cond.instanceMethod yX9_meanMinusArea ∈ wsL_law := mwr37 _ (List.mem_of_getElem? (i := 11) rfl)
theorem mw876 : Cond.selects RX9 yX9_meanMinusArea yX9_meanMinusArea ∈ wsL_law := mwr37 _ (List.mem_of_getElem? (i := 12) rfl)
theorem mw877 : Cond.code yX9_meanMinusArea cX9_meanMinusArea 1 (some .long) ∈ wsL_law := mwr37 _ (List.mem_of_getElem? (i := 13) rfl)
theorem mw878 : Cond.instanceMethod yX4_allSteps ∈ wsL_law := mwr37 _ (List.mem_of_getElem? (i := 14) rfl)
theorem mw879 : Cond.selects RX4 yX4_allSteps yX4_allSteps ∈ wsL_law := mwr37 _ (List.mem_of_getElem? (i := 15) rfl)
theorem mw880 : Cond.code yX4_allSteps cX4_allSteps 5 (some .long) ∈ wsL_law := mwr37 _ (List.mem_of_getElem? (i := 16) rfl)
theorem mw881 : Cond.methodLink RX4 54 yX4_steps ∈ wsL_law := mwr37 _ (List.mem_of_getElem? (i := 17) rfl)
theorem mw882 : Cond.methodLink RL 156 yX10_count ∈ wsL_law := mwr37 _ (List.mem_of_getElem? (i := 18) rfl)
theorem mw883 : Cond.instanceMethod yX10_count ∈ wsL_law := mwr37 _ (List.mem_of_getElem? (i := 19) rfl)
theorem mw884 : Cond.selects RX10 yX10_count yX10_count ∈ wsL_law := mwr37 _ (List.mem_of_getElem? (i := 20) rfl)
theorem mw885 : Cond.code yX10_count cX10_count 2 (some .long) ∈ wsL_law := mwr37 _ (List.mem_of_getElem? (i := 21) rfl)
theorem mw886 : Cond.constantLong RX10 304 (14) ∈ wsL_law := mwr37 _ (List.mem_of_getElem? (i := 22) rfl)
theorem mw887 : Cond.methodLink RX10 306 yX10_counted ∈ wsL_law := mwr37 _ (List.mem_of_getElem? (i := 23) rfl)
theorem mw888 : Cond.instanceMethod yX10_counted ∈ wsL_law := mwr38 _ (List.mem_of_getElem? (i := 0) rfl)
theorem mw889 : Cond.selects RX10 yX10_counted yX10_counted ∈ wsL_law := mwr38 _ (List.mem_of_getElem? (i := 1) rfl)
theorem mw890 : Cond.code yX10_counted cX10_counted 2 (some .long) ∈ wsL_law := mwr38 _ (List.mem_of_getElem? (i := 2) rfl)
theorem mw891 : Cond.methodLink RX10 292 yX10_twiceArea ∈ wsL_law := mwr38 _ (List.mem_of_getElem? (i := 3) rfl)
theorem mw892 : Cond.instanceMethod yX10_twiceArea ∈ wsL_law := mwr38 _ (List.mem_of_getElem? (i := 4) rfl)
theorem mw893 : Cond.selects RX10 yX10_twiceArea yX10_twiceArea ∈ wsL_law := mwr38 _ (List.mem_of_getElem? (i := 5) rfl)
theorem mw894 : Cond.code yX10_twiceArea cX10_twiceArea 4 (some .long) ∈ wsL_law := mwr38 _ (List.mem_of_getElem? (i := 6) rfl)
theorem mw895 : Cond.methodLink RX10 289 yX10_mean ∈ wsL_law := mwr38 _ (List.mem_of_getElem? (i := 7) rfl)
theorem mw896 : Cond.instanceMethod yX10_mean ∈ wsL_law := mwr38 _ (List.mem_of_getElem? (i := 8) rfl)
theorem mw897 : Cond.selects RX10 yX10_mean yX10_mean ∈ wsL_law := mwr38 _ (List.mem_of_getElem? (i := 9) rfl)
theorem mw898 : Cond.code yX10_mean cX10_mean 4 (some .long) ∈ wsL_law := mwr38 _ (List.mem_of_getElem? (i := 10) rfl)
theorem mw899 : Cond.methodLink RX10 295 yX10_outs ∈ wsL_law := mwr38 _ (List.mem_of_getElem? (i := 11) rfl)
theorem mw900 : Cond.instanceMethod yX10_outs ∈ wsL_law := mwr38 _ (List.mem_of_getElem? (i := 12) rfl)
theorem mw901 : Cond.selects RX10 yX10_outs yX10_outs ∈ wsL_law := mwr38 _ (List.mem_of_getElem? (i := 13) rfl)
theorem mw902 : Cond.code yX10_outs cX10_outs 1 (some .long) ∈ wsL_law := mwr38 _ (List.mem_of_getElem? (i := 14) rfl)
theorem mw903 : Cond.methodLink RX10 298 yX10_difference ∈ wsL_law := mwr38 _ (List.mem_of_getElem? (i := 15) rfl)
theorem mw904 : Cond.instanceMethod yX10_difference ∈ wsL_law := mwr38 _ (List.mem_of_getElem? (i := 16) rfl)
theorem mw905 : Cond.selects RX10 yX10_difference yX10_difference ∈ wsL_law := mwr38 _ (List.mem_of_getElem? (i := 17) rfl)
theorem mw906 : Cond.code yX10_difference cX10_difference 1 (some .long) ∈ wsL_law := mwr38 _ (List.mem_of_getElem? (i := 18) rfl)
theorem mw907 : Cond.methodLink RX10 301 yX10_allSteps ∈ wsL_law := mwr38 _ (List.mem_of_getElem? (i := 19) rfl)
theorem mw908 : Cond.instanceMethod yX10_allSteps ∈ wsL_law := mwr38 _ (List.mem_of_getElem? (i := 20) rfl)
theorem mw909 : Cond.selects RX10 yX10_allSteps yX10_allSteps ∈ wsL_law := mwr38 _ (List.mem_of_getElem? (i := 21) rfl)
theorem mw910 : Cond.code yX10_allSteps cX10_allSteps 4 (some .long) ∈ wsL_law := mwr38 _ (List.mem_of_getElem? (i := 22) rfl)
theorem mw911 : Cond.methodLink RL 157 yL_setting ∈ wsL_law := mwr38 _ (List.mem_of_getElem? (i := 23) rfl)
theorem mw912 : Cond.static yL_setting ∈ wsL_law := mwr39 _ (List.mem_of_getElem? (i := 0) rfl)
theorem mw913 : Cond.codeWith yL_setting cL_setting 4 (some .int) [(0, 9, 12, 18)] ∈ wsL_law := mwr39 _ (List.mem_of_getElem? (i := 1) rfl)
theorem mw914 : Cond.methodLink RL 68 yX9_setting ∈ wsL_law := mwr39 _ (List.mem_of_getElem? (i := 2) rfl)
theorem mw915 : Cond.instanceMethod yX9_setting ∈ wsL_law := mwr39 _ (List.mem_of_getElem? (i := 3) rfl)
theorem mw916 : Cond.selects RX9 yX9_setting yX9_setting ∈ wsL_law := mwr39 _ (List.mem_of_getElem? (i := 4) rfl)
theorem mw917 : Cond.code yX9_setting cX9_setting 2 (some .int) ∈ wsL_law := mwr39 _ (List.mem_of_getElem? (i := 5) rfl)
theorem mw918 : Cond.methodLink RL 159 yX10_setting ∈ wsL_law := mwr39 _ (List.mem_of_getElem? (i := 6) rfl)
theorem mw919 : Cond.instanceMethod yX10_setting ∈ wsL_law := mwr39 _ (List.mem_of_getElem? (i := 7) rfl)
theorem mw920 : Cond.selects RX10 yX10_setting yX10_setting ∈ wsL_law := mwr39 _ (List.mem_of_getElem? (i := 8) rfl)
theorem mw921 : Cond.code yX10_setting cX10_setting 2 (some .int) ∈ wsL_law := mwr39 _ (List.mem_of_getElem? (i := 9) rfl)
theorem mw922 : Cond.methodLink RL 160 yL_why ∈ wsL_law := mwr39 _ (List.mem_of_getElem? (i := 10) rfl)
theorem mw923 : Cond.static yL_why ∈ wsL_law := mwr39 _ (List.mem_of_getElem? (i := 11) rfl)
theorem mw924 : Cond.codeWith yL_why cL_why 5 (some .int) [(0, 10, 13, 18)] ∈ wsL_law := mwr39 _ (List.mem_of_getElem? (i := 12) rfl)
theorem mw925 : Cond.methodLink RL 71 yX9_why ∈ wsL_law := mwr39 _ (List.mem_of_getElem? (i := 13) rfl)
theorem mw926 : Cond.instanceMethod yX9_why ∈ wsL_law := mwr39 _ (List.mem_of_getElem? (i := 14) rfl)
theorem mw927 : Cond.selects RX9 yX9_why yX9_why ∈ wsL_law := mwr39 _ (List.mem_of_getElem? (i := 15) rfl)
theorem mw928 : Cond.code yX9_why cX9_why 3 (some .int) ∈ wsL_law := mwr39 _ (List.mem_of_getElem? (i := 16) rfl)
theorem mw929 : Cond.methodLink RL 162 yX10_why ∈ wsL_law := mwr39 _ (List.mem_of_getElem? (i := 17) rfl)
theorem mw930 : Cond.instanceMethod yX10_why ∈ wsL_law := mwr39 _ (List.mem_of_getElem? (i := 18) rfl)
theorem mw931 : Cond.selects RX10 yX10_why yX10_why ∈ wsL_law := mwr39 _ (List.mem_of_getElem? (i := 19) rfl)
theorem mw932 : Cond.code yX10_why cX10_why 3 (some .int) ∈ wsL_law := mwr39 _ (List.mem_of_getElem? (i := 20) rfl)
theorem mw933 : Cond.methodLink RL 163 yL_ifSet ∈ wsL_law := mwr39 _ (List.mem_of_getElem? (i := 21) rfl)
theorem mw934 : Cond.static yL_ifSet ∈ wsL_law := mwr39 _ (List.mem_of_getElem? (i := 22) rfl)
theorem mw935 : Cond.codeWith yL_ifSet cL_ifSet 7 (some .int) [(0, 13, 16, 18), (0, 13, 20, 13)] ∈ wsL_law := mwr39 _ (List.mem_of_getElem? (i := 23) rfl)
theorem mw936 : Cond.methodLink RL 74 yX9_ifSet ∈ wsL_law := mwr40 _ (List.mem_of_getElem? (i := 0) rfl)
theorem mw937 : Cond.instanceMethod yX9_ifSet ∈ wsL_law := mwr40 _ (List.mem_of_getElem? (i := 1) rfl)
theorem mw938 : Cond.selects RX9 yX9_ifSet yX9_ifSet ∈ wsL_law := mwr40 _ (List.mem_of_getElem? (i := 2) rfl)
theorem mw939 : Cond.code yX9_ifSet cX9_ifSet 5 (some .long) ∈ wsL_law := mwr40 _ (List.mem_of_getElem? (i := 3) rfl)
theorem mw940 : Cond.methodLink RL 166 yX10_ifSet ∈ wsL_law := mwr40 _ (List.mem_of_getElem? (i := 4) rfl)
theorem mw941 : Cond.instanceMethod yX10_ifSet ∈ wsL_law := mwr40 _ (List.mem_of_getElem? (i := 5) rfl)
theorem mw942 : Cond.selects RX10 yX10_ifSet yX10_ifSet ∈ wsL_law := mwr40 _ (List.mem_of_getElem? (i := 6) rfl)
theorem mw943 : Cond.code yX10_ifSet cX10_ifSet 5 (some .long) ∈ wsL_law := mwr40 _ (List.mem_of_getElem? (i := 7) rfl)
theorem mw944 : Cond.methodLink RX10 309 yX10_sumWith ∈ wsL_law := mwr40 _ (List.mem_of_getElem? (i := 8) rfl)
theorem mw945 : Cond.instanceMethod yX10_sumWith ∈ wsL_law := mwr40 _ (List.mem_of_getElem? (i := 9) rfl)
theorem mw946 : Cond.selects RX10 yX10_sumWith yX10_sumWith ∈ wsL_law := mwr40 _ (List.mem_of_getElem? (i := 10) rfl)
theorem mw947 : Cond.code yX10_sumWith cX10_sumWith 9 (some .long) ∈ wsL_law := mwr40 _ (List.mem_of_getElem? (i := 11) rfl)
theorem mw948 : Cond.methodLink RL 167 yX9_leastArm ∈ wsL_law := mwr40 _ (List.mem_of_getElem? (i := 12) rfl)
theorem mw949 : Cond.instanceMethod yX9_leastArm ∈ wsL_law := mwr40 _ (List.mem_of_getElem? (i := 13) rfl)
theorem mw950 : Cond.selects RX9 yX9_leastArm yX9_leastArm ∈ wsL_law := mwr40 _ (List.mem_of_getElem? (i := 14) rfl)
theorem mw951 : Cond.code yX9_leastArm cX9_leastArm 2 (some .int) ∈ wsL_law := mwr40 _ (List.mem_of_getElem? (i := 15) rfl)
theorem mw952 : Cond.instanceMethod yX1_reachesMeasuredWith ∈ wsL_law := mwr40 _ (List.mem_of_getElem? (i := 16) rfl)
theorem mw953 : Cond.selects RX1 yX1_reachesMeasuredWith yX1_reachesMeasuredWith ∈ wsL_law := mwr40 _ (List.mem_of_getElem? (i := 17) rfl)
theorem mw954 : Cond.code yX1_reachesMeasuredWith cX1_reachesMeasuredWith 2 (some .boolean) ∈ wsL_law := mwr40 _ (List.mem_of_getElem? (i := 18) rfl)
theorem mw955 : Cond.methodLink RX1 97 yX1_reachesMeasured ∈ wsL_law := mwr40 _ (List.mem_of_getElem? (i := 19) rfl)
theorem mw956 : Cond.methodLink RL 170 yX10_leastArm ∈ wsL_law := mwr40 _ (List.mem_of_getElem? (i := 20) rfl)
theorem mw957 : Cond.instanceMethod yX10_leastArm ∈ wsL_law := mwr40 _ (List.mem_of_getElem? (i := 21) rfl)
theorem mw958 : Cond.selects RX10 yX10_leastArm yX10_leastArm ∈ wsL_law := mwr40 _ (List.mem_of_getElem? (i := 22) rfl)
theorem mw959 : Cond.code yX10_leastArm cX10_leastArm 1 (some .int) ∈ wsL_law := mwr40 _ (List.mem_of_getElem? (i := 23) rfl)
theorem mw960 : Cond.methodLink RX10 313 yX10_leastNow ∈ wsL_law := mwr41 _ (List.mem_of_getElem? (i := 0) rfl)
theorem mw961 : Cond.instanceMethod yX10_leastNow ∈ wsL_law := mwr41 _ (List.mem_of_getElem? (i := 1) rfl)
theorem mw962 : Cond.selects RX10 yX10_leastNow yX10_leastNow ∈ wsL_law := mwr41 _ (List.mem_of_getElem? (i := 2) rfl)
theorem mw963 : Cond.code yX10_leastNow cX10_leastNow 5 (some .int) ∈ wsL_law := mwr41 _ (List.mem_of_getElem? (i := 3) rfl)
theorem mw964 : Cond.methodLink RL 171 yX9_error ∈ wsL_law := mwr41 _ (List.mem_of_getElem? (i := 4) rfl)
theorem mw965 : Cond.instanceMethod yX9_error ∈ wsL_law := mwr41 _ (List.mem_of_getElem? (i := 5) rfl)
theorem mw966 : Cond.selects RX9 yX9_error yX9_error ∈ wsL_law := mwr41 _ (List.mem_of_getElem? (i := 6) rfl)
theorem mw967 : Cond.code yX9_error cX9_error 3 (some .double) ∈ wsL_law := mwr41 _ (List.mem_of_getElem? (i := 7) rfl)
theorem mw968 : Cond.methodLink RL 175 yX10_error ∈ wsL_law := mwr41 _ (List.mem_of_getElem? (i := 8) rfl)
theorem mw969 : Cond.instanceMethod yX10_error ∈ wsL_law := mwr41 _ (List.mem_of_getElem? (i := 9) rfl)
theorem mw970 : Cond.selects RX10 yX10_error yX10_error ∈ wsL_law := mwr41 _ (List.mem_of_getElem? (i := 10) rfl)
theorem mw971 : Cond.code yX10_error cX10_error 1 (some .double) ∈ wsL_law := mwr41 _ (List.mem_of_getElem? (i := 11) rfl)
theorem mw972 : Cond.methodLink RX10 316 yX10_errorNow ∈ wsL_law := mwr41 _ (List.mem_of_getElem? (i := 12) rfl)
theorem mw973 : Cond.instanceMethod yX10_errorNow ∈ wsL_law := mwr41 _ (List.mem_of_getElem? (i := 13) rfl)
theorem mw974 : Cond.selects RX10 yX10_errorNow yX10_errorNow ∈ wsL_law := mwr41 _ (List.mem_of_getElem? (i := 14) rfl)
theorem mw975 : Cond.code yX10_errorNow cX10_errorNow 3 (some .double) ∈ wsL_law := mwr41 _ (List.mem_of_getElem? (i := 15) rfl)
theorem mw976 : Cond.methodLink RL 176 yX9_digest ∈ wsL_law := mwr41 _ (List.mem_of_getElem? (i := 16) rfl)
theorem mw977 : Cond.instanceMethod yX9_digest ∈ wsL_law := mwr41 _ (List.mem_of_getElem? (i := 17) rfl)
theorem mw978 : Cond.selects RX9 yX9_digest yX9_digest ∈ wsL_law := mwr41 _ (List.mem_of_getElem? (i := 18) rfl)
theorem mw979 : Cond.code yX9_digest cX9_digest 5 (some .long) ∈ wsL_law := mwr41 _ (List.mem_of_getElem? (i := 19) rfl)
theorem mw980 : Cond.constantLong RX9 254 (2113) ∈ wsL_law := mwr41 _ (List.mem_of_getElem? (i := 20) rfl)
theorem mw981 : Cond.methodLink RX9 256 yX9_hashed ∈ wsL_law := mwr41 _ (List.mem_of_getElem? (i := 21) rfl)
theorem mw982 : Cond.static yX9_hashed ∈ wsL_law := mwr41 _ (List.mem_of_getElem? (i := 22) rfl)
theorem mw983 : Cond.code yX9_hashed cX9_hashed 4 (some .long) ∈ wsL_law := mwr41 _ (List.mem_of_getElem? (i := 23) rfl)
theorem mw984 : Cond.constantLong RX9 339 (31) ∈ wsL_law := mwr42 _ (List.mem_of_getElem? (i := 0) rfl)
theorem mw985 : Cond.methodLink RX9 260 yX9_leastArm ∈ wsL_law := mwr42 _ (List.mem_of_getElem? (i := 1) rfl)
theorem mw986 : Cond.methodLink RX9 263 yX9_errorBits ∈ wsL_law := mwr42 _ (List.mem_of_getElem? (i := 2) rfl)
theorem mw987 : Cond.instanceMethod yX9_errorBits ∈ wsL_law := mwr42 _ (List.mem_of_getElem? (i := 3) rfl)
theorem mw988 : Cond.selects RX9 yX9_errorBits yX9_errorBits ∈ wsL_law := mwr42 _ (List.mem_of_getElem? (i := 4) rfl)
theorem mw989 : Cond.code yX9_errorBits cX9_errorBits 8 (some .long) ∈ wsL_law := mwr42 _ (List.mem_of_getElem? (i := 5) rfl)
theorem mw990 : Cond.constantLong RX9 349 (-9223372036854775808) ∈ wsL_law := mwr42 _ (List.mem_of_getElem? (i := 6) rfl)
theorem mw991 : Cond.methodLink RX9 341 yX9_error ∈ wsL_law := mwr42 _ (List.mem_of_getElem? (i := 7) rfl)
theorem mw992 : Cond.methodLink RX9 345 yX9_bitsOfSize ∈ wsL_law := mwr42 _ (List.mem_of_getElem? (i := 8) rfl)
theorem mw993 : Cond.static yX9_bitsOfSize ∈ wsL_law := mwr42 _ (List.mem_of_getElem? (i := 9) rfl)
theorem mw994 : Cond.code yX9_bitsOfSize cX9_bitsOfSize 8 (some .long) ∈ wsL_law := mwr42 _ (List.mem_of_getElem? (i := 10) rfl)
theorem mw995 : Cond.constantDouble RX9 351 (4611686018427387904) ∈ wsL_law := mwr42 _ (List.mem_of_getElem? (i := 11) rfl)
theorem mw996 : Cond.constantLong RX9 353 (1023) ∈ wsL_law := mwr42 _ (List.mem_of_getElem? (i := 12) rfl)
theorem mw997 : Cond.constantLong RX9 355 (-1022) ∈ wsL_law := mwr42 _ (List.mem_of_getElem? (i := 13) rfl)
theorem mw998 : Cond.constantDouble RX9 357 (4841369599423283200) ∈ wsL_law := mwr42 _ (List.mem_of_getElem? (i := 14) rfl)
theorem mw999 : Cond.methodLink RL 180 yX10_digest ∈ wsL_law := mwr42 _ (List.mem_of_getElem? (i := 15) rfl)
theorem mw1000 : Cond.instanceMethod yX10_digest ∈ wsL_law := mwr42 _ (List.mem_of_getElem? (i := 16) rfl)
theorem mw1001 : Cond.selects RX10 yX10_digest yX10_digest ∈ wsL_law := mwr42 _ (List.mem_of_getElem? (i := 17) rfl)
theorem mw1002 : Cond.code yX10_digest cX10_digest 3 (some .long) ∈ wsL_law := mwr42 _ (List.mem_of_getElem? (i := 18) rfl)
theorem mw1003 : Cond.constantLong RX10 325 (2113) ∈ wsL_law := mwr42 _ (List.mem_of_getElem? (i := 19) rfl)
theorem mw1004 : Cond.fieldLink RX10 322 "PolarPlanimeterModel" "h" "J" ∈ wsL_law := mwr42 _ (List.mem_of_getElem? (i := 20) rfl)
theorem mw1005 : Cond.methodLink RX10 327 yX10_mix ∈ wsL_law := mwr42 _ (List.mem_of_getElem? (i := 21) rfl)
theorem mw1006 : Cond.instanceMethod yX10_mix ∈ wsL_law := mwr42 _ (List.mem_of_getElem? (i := 22) rfl)
theorem mw1007 : Cond.selects RX10 yX10_mix yX10_mix ∈ wsL_law := mwr42 _ (List.mem_of_getElem? (i := 23) rfl)
theorem mw1008 : Cond.code yX10_mix cX10_mix 3 none ∈ wsL_law := mwr43 _ (List.mem_of_getElem? (i := 0) rfl)
theorem mw1009 : Cond.constantLong RX10 320 (31) ∈ wsL_law := mwr43 _ (List.mem_of_getElem? (i := 1) rfl)
theorem mw1010 : Cond.methodLink RX10 331 yJxe99ae_doubleToLongBits_ccdee ∈ wsL_law := mwr43 _ (List.mem_of_getElem? (i := 2) rfl)
theorem mw1011 : Cond.static yJxe99ae_doubleToLongBits_ccdee ∈ wsL_law := mwr43 _ (List.mem_of_getElem? (i := 3) rfl)
theorem mw1012 : Cond.initialized RJxe99ae ∈ wsL_law := mwr43 _ (List.mem_of_getElem? (i := 4) rfl)
theorem mw1013 : Cond.code yJxe99ae_doubleToLongBits_ccdee cJxe99ae_doubleToLongBits_ccdee 2 (some .long) ∈ wsL_law := mwr43 _ (List.mem_of_getElem? (i := 5) rfl)
theorem mw1014 : Cond.methodLink RJxe99ae 134 ⟨"java/lang/Double", "doubleToRawLongBits", "(D)J"⟩ ∈ wsL_law := mwr43 _ (List.mem_of_getElem? (i := 6) rfl)
theorem mw1015 : Cond.native ⟨"java/lang/Double", "doubleToRawLongBits", "(D)J"⟩ ∈ wsL_law := mwr43 _ (List.mem_of_getElem? (i := 7) rfl)
theorem mw1016 : Cond.static ⟨"java/lang/Double", "doubleToRawLongBits", "(D)J"⟩ ∈ wsL_law := mwr43 _ (List.mem_of_getElem? (i := 8) rfl)
theorem mw1017 : Cond.initialized "java/lang/Double" ∈ wsL_law := mwr43 _ (List.mem_of_getElem? (i := 9) rfl)
theorem mw1018 : Cond.constantLong RJxe99ae 137 (9221120237041090560) ∈ wsL_law := mwr43 _ (List.mem_of_getElem? (i := 10) rfl)
theorem mw1019 : Cond.methodLink RJxe99ae 122 yJxe99ae_isNaN_b9ae7 ∈ wsL_law := mwr43 _ (List.mem_of_getElem? (i := 11) rfl)
theorem mw1020 : Cond.static yJxe99ae_isNaN_b9ae7 ∈ wsL_law := mwr43 _ (List.mem_of_getElem? (i := 12) rfl)
theorem mw1021 : Cond.code yJxe99ae_isNaN_b9ae7 cJxe99ae_isNaN_b9ae7 2 (some .boolean) ∈ wsL_law := mwr43 _ (List.mem_of_getElem? (i := 13) rfl)
def nestF : List Cond := [Cond.fieldLinkNest "PolarPlanimeter" 100 "PolarPlanimeter$State" "outline" "LPolarPlanimeter$Outline;" "PolarPlanimeter", Cond.fieldLinkNest "PolarPlanimeter" 104 "PolarPlanimeter$Outline" "corners" "I" "PolarPlanimeter", Cond.fieldLinkNest "PolarPlanimeter" 129 "PolarPlanimeter$Outline" "xs" "[I" "PolarPlanimeter", Cond.fieldLinkNest "PolarPlanimeter" 132 "PolarPlanimeter$Outline" "ys" "[I" "PolarPlanimeter", Cond.fieldLinkNest "PolarPlanimeter" 140 "PolarPlanimeter$Outline" "slips" "[I" "PolarPlanimeter", Cond.fieldLinkNest "PolarPlanimeter" 160 "PolarPlanimeter$Runs" "made" "I" "PolarPlanimeter", Cond.fieldLinkNest "PolarPlanimeter" 184 "PolarPlanimeter$History" "saved" "I" "PolarPlanimeter", Cond.fieldLinkNest "PolarPlanimeter" 207 "PolarPlanimeter$Follower" "arm" "LPolarPlanimeter$Arm;" "PolarPlanimeter", Cond.fieldLinkNest "PolarPlanimeter" 220 "PolarPlanimeter$Arm" "elbowX" "J" "PolarPlanimeter", Cond.fieldLinkNest "PolarPlanimeter" 224 "PolarPlanimeter$Arm" "elbowY" "J" "PolarPlanimeter", Cond.fieldLinkNest "PolarPlanimeter" 297 "PolarPlanimeter$Runs" "corners" "[I" "PolarPlanimeter", Cond.fieldLinkNest "PolarPlanimeter" 299 "PolarPlanimeter$Runs" "backward" "[Z" "PolarPlanimeter", Cond.fieldLinkNest "PolarPlanimeter" 303 "PolarPlanimeter$Runs" "sums" "[J" "PolarPlanimeter", Cond.fieldLinkNest "PolarPlanimeter" 321 "PolarPlanimeter$Mean" "leftOut" "[Z" "PolarPlanimeter", Cond.fieldLinkNest "PolarPlanimeter" 330 "PolarPlanimeter$Mean" "value" "J" "PolarPlanimeter", Cond.fieldLinkNest "PolarPlanimeter" 333 "PolarPlanimeter$Mean" "kept" "I" "PolarPlanimeter", Cond.fieldLinkNest "PolarPlanimeter" 66 "PolarPlanimeter$State" "anchorX" "I" "PolarPlanimeter", Cond.fieldLinkNest "PolarPlanimeter" 70 "PolarPlanimeter$State" "anchorY" "I" "PolarPlanimeter", Cond.fieldLinkNest "PolarPlanimeter" 73 "PolarPlanimeter$State" "runs" "LPolarPlanimeter$Runs;" "PolarPlanimeter", Cond.fieldLinkNest "PolarPlanimeter" 91 "PolarPlanimeter$State" "settings" "[I" "PolarPlanimeter", Cond.fieldLinkNest "PolarPlanimeter" 97 "PolarPlanimeter$State" "tolerance" "I" "PolarPlanimeter", Cond.fieldLinkNest "PolarPlanimeter$Arm" 11 "PolarPlanimeter$State" "anchorX" "I" "PolarPlanimeter", Cond.fieldLinkNest "PolarPlanimeter$Arm" 22 "PolarPlanimeter$State" "anchorY" "I" "PolarPlanimeter", Cond.fieldLinkNest "PolarPlanimeter$Arm" 27 "PolarPlanimeter$State" "settings" "[I" "PolarPlanimeter", Cond.fieldLinkNest "PolarPlanimeter$Follower" 108 "PolarPlanimeter$Outline" "xs" "[I" "PolarPlanimeter", Cond.fieldLinkNest "PolarPlanimeter$Follower" 111 "PolarPlanimeter$Outline" "ys" "[I" "PolarPlanimeter", Cond.fieldLinkNest "PolarPlanimeter$Follower" 129 "PolarPlanimeter$Wheel" "counted" "J" "PolarPlanimeter", Cond.fieldLinkNest "PolarPlanimeter$Follower" 132 "PolarPlanimeter$Outline" "slips" "[I" "PolarPlanimeter", Cond.fieldLinkNest "PolarPlanimeter$Follower" 29 "PolarPlanimeter$State" "outline" "LPolarPlanimeter$Outline;" "PolarPlanimeter", Cond.fieldLinkNest "PolarPlanimeter$Follower" 35 "PolarPlanimeter$Outline" "corners" "I" "PolarPlanimeter", Cond.fieldLinkNest "PolarPlanimeter$Follower" 57 "PolarPlanimeter$State" "settings" "[I" "PolarPlanimeter", Cond.fieldLinkNest "PolarPlanimeter$Follower" 94 "PolarPlanimeter$Arm" "tracer" "J" "PolarPlanimeter", Cond.fieldLinkNest "PolarPlanimeter$Mean" 22 "PolarPlanimeter$State" "runs" "LPolarPlanimeter$Runs;" "PolarPlanimeter", Cond.fieldLinkNest "PolarPlanimeter$Mean" 28 "PolarPlanimeter$Runs" "made" "I" "PolarPlanimeter", Cond.fieldLinkNest "PolarPlanimeter$Mean" 47 "PolarPlanimeter$State" "tolerance" "I" "PolarPlanimeter", Cond.fieldLinkNest "PolarPlanimeter$State" 33 "PolarPlanimeter" "AT_FIRST" "[I" "PolarPlanimeter", Cond.fieldLinkNest "PolarPlanimeter$TextReader" 36 "PolarPlanimeter$Outline" "corners" "I" "PolarPlanimeter"]
def nestM : List Cond := [Cond.methodLinkNest "PolarPlanimeter" 122 ({ cls := "PolarPlanimeter$Outline", name := "open", desc := "(III)V" } : MethodName) "PolarPlanimeter", Cond.methodLinkNest "PolarPlanimeter" 135 ({ cls := "PolarPlanimeter$Outline", name := "close", desc := "(I)V" } : MethodName) "PolarPlanimeter", Cond.methodLinkNest "PolarPlanimeter" 152 ({ cls := "PolarPlanimeter$Follower", name := "sum", desc := "(LPolarPlanimeter$State;IZ)J" } : MethodName) "PolarPlanimeter", Cond.methodLinkNest "PolarPlanimeter" 156 ({ cls := "PolarPlanimeter$Runs", name := "add", desc := "(IZJ)V" } : MethodName) "PolarPlanimeter", Cond.methodLinkNest "PolarPlanimeter" 170 ({ cls := "PolarPlanimeter$TextReader", name := "read", desc := "([II)I" } : MethodName) "PolarPlanimeter", Cond.methodLinkNest "PolarPlanimeter" 174 ({ cls := "PolarPlanimeter$TextReader", name := "isComplete", desc := "()Z" } : MethodName) "PolarPlanimeter", Cond.methodLinkNest "PolarPlanimeter" 180 ({ cls := "PolarPlanimeter$TextReader", name := "putInto", desc := "(LPolarPlanimeter$Outline;)V" } : MethodName) "PolarPlanimeter", Cond.methodLinkNest "PolarPlanimeter" 189 ({ cls := "PolarPlanimeter$History", name := "restore", desc := "(LPolarPlanimeter$State;)V" } : MethodName) "PolarPlanimeter", Cond.methodLinkNest "PolarPlanimeter" 21 ({ cls := "PolarPlanimeter$History", name := "<init>", desc := "()V" } : MethodName) "PolarPlanimeter", Cond.methodLinkNest "PolarPlanimeter" 211 ({ cls := "PolarPlanimeter$Arm", name := "fit", desc := "(LPolarPlanimeter$State;)V" } : MethodName) "PolarPlanimeter", Cond.methodLinkNest "PolarPlanimeter" 216 ({ cls := "PolarPlanimeter$Arm", name := "place", desc := "(JJ)Z" } : MethodName) "PolarPlanimeter", Cond.methodLinkNest "PolarPlanimeter" 231 ({ cls := "PolarPlanimeter$State", name := "copy", desc := "(LPolarPlanimeter$State;)V" } : MethodName) "PolarPlanimeter", Cond.methodLinkNest "PolarPlanimeter" 234 ({ cls := "PolarPlanimeter$Follower", name := "measureAll", desc := "(LPolarPlanimeter$State;)V" } : MethodName) "PolarPlanimeter", Cond.methodLinkNest "PolarPlanimeter" 243 ({ cls := "PolarPlanimeter$Follower", name := "reachesMeasuredWith", desc := "(I)Z" } : MethodName) "PolarPlanimeter", Cond.methodLinkNest "PolarPlanimeter" 247 ({ cls := "PolarPlanimeter$Outline", name := "area", desc := "()J" } : MethodName) "PolarPlanimeter", Cond.methodLinkNest "PolarPlanimeter" 276 ({ cls := "PolarPlanimeter$Outline", name := "touches", desc := "(II)Z" } : MethodName) "PolarPlanimeter", Cond.methodLinkNest "PolarPlanimeter" 279 ({ cls := "PolarPlanimeter$Follower", name := "reachesMeasured", desc := "()Z" } : MethodName) "PolarPlanimeter", Cond.methodLinkNest "PolarPlanimeter" 28 ({ cls := "PolarPlanimeter$Follower", name := "<init>", desc := "()V" } : MethodName) "PolarPlanimeter", Cond.methodLinkNest "PolarPlanimeter" 282 ({ cls := "PolarPlanimeter$Outline", name := "steps", desc := "(II)I" } : MethodName) "PolarPlanimeter", Cond.methodLinkNest "PolarPlanimeter" 289 ({ cls := "PolarPlanimeter$Follower", name := "roll", desc := "(LPolarPlanimeter$State;I)J" } : MethodName) "PolarPlanimeter", Cond.methodLinkNest "PolarPlanimeter" 293 ({ cls := "PolarPlanimeter$Follower", name := "measureOne", desc := "(LPolarPlanimeter$State;I)V" } : MethodName) "PolarPlanimeter", Cond.methodLinkNest "PolarPlanimeter" 312 ({ cls := "PolarPlanimeter$State", name := "constant", desc := "()J" } : MethodName) "PolarPlanimeter", Cond.methodLinkNest "PolarPlanimeter" 315 ({ cls := "PolarPlanimeter$Runs", name := "area", desc := "(IJ)J" } : MethodName) "PolarPlanimeter", Cond.methodLinkNest "PolarPlanimeter" 318 ({ cls := "PolarPlanimeter$Mean", name := "take", desc := "(LPolarPlanimeter$State;)V" } : MethodName) "PolarPlanimeter", Cond.methodLinkNest "PolarPlanimeter" 324 ({ cls := "PolarPlanimeter$Outline", name := "twiceArea", desc := "()J" } : MethodName) "PolarPlanimeter", Cond.methodLinkNest "PolarPlanimeter" 327 ({ cls := "PolarPlanimeter$State", name := "winding", desc := "()J" } : MethodName) "PolarPlanimeter", Cond.methodLinkNest "PolarPlanimeter" 336 ({ cls := "PolarPlanimeter$Outline", name := "allSteps", desc := "(I)J" } : MethodName) "PolarPlanimeter", Cond.methodLinkNest "PolarPlanimeter" 35 ({ cls := "PolarPlanimeter$Mean", name := "<init>", desc := "()V" } : MethodName) "PolarPlanimeter", Cond.methodLinkNest "PolarPlanimeter" 42 ({ cls := "PolarPlanimeter$TextReader", name := "<init>", desc := "()V" } : MethodName) "PolarPlanimeter", Cond.methodLinkNest "PolarPlanimeter" 62 ({ cls := "PolarPlanimeter$History", name := "save", desc := "(LPolarPlanimeter$State;)V" } : MethodName) "PolarPlanimeter", Cond.methodLinkNest "PolarPlanimeter" 77 ({ cls := "PolarPlanimeter$Runs", name := "clear", desc := "()I" } : MethodName) "PolarPlanimeter", Cond.methodLinkNest "PolarPlanimeter" 9 ({ cls := "PolarPlanimeter$State", name := "<init>", desc := "()V" } : MethodName) "PolarPlanimeter", Cond.methodLinkNest "PolarPlanimeter$Arm" 63 ({ cls := "PolarPlanimeter", name := "root", desc := "(J)J" } : MethodName) "PolarPlanimeter", Cond.methodLinkNest "PolarPlanimeter$Arm" 72 ({ cls := "PolarPlanimeter", name := "quotient", desc := "(JJ)J" } : MethodName) "PolarPlanimeter", Cond.methodLinkNest "PolarPlanimeter$Arm" 82 ({ cls := "PolarPlanimeter", name := "cross", desc := "(JJJJJJ)J" } : MethodName) "PolarPlanimeter", Cond.methodLinkNest "PolarPlanimeter$Follower" 101 ({ cls := "PolarPlanimeter$Arm", name := "place", desc := "(JJ)Z" } : MethodName) "PolarPlanimeter", Cond.methodLinkNest "PolarPlanimeter$Follower" 105 ({ cls := "PolarPlanimeter$Arm", name := "sweepTo", desc := "(JJ)J" } : MethodName) "PolarPlanimeter", Cond.methodLinkNest "PolarPlanimeter$Follower" 11 ({ cls := "PolarPlanimeter$Arm", name := "<init>", desc := "()V" } : MethodName) "PolarPlanimeter", Cond.methodLinkNest "PolarPlanimeter$Follower" 114 ({ cls := "PolarPlanimeter$Wheel", name := "start", desc := "(I)V" } : MethodName) "PolarPlanimeter", Cond.methodLinkNest "PolarPlanimeter$Follower" 118 ({ cls := "PolarPlanimeter$Outline", name := "previous", desc := "(I)I" } : MethodName) "PolarPlanimeter", Cond.methodLinkNest "PolarPlanimeter$Follower" 126 ({ cls := "PolarPlanimeter$Outline", name := "next", desc := "(I)I" } : MethodName) "PolarPlanimeter", Cond.methodLinkNest "PolarPlanimeter$Follower" 135 ({ cls := "PolarPlanimeter$Wheel", name := "turn", desc := "(JI)V" } : MethodName) "PolarPlanimeter", Cond.methodLinkNest "PolarPlanimeter$Follower" 20 ({ cls := "PolarPlanimeter$Wheel", name := "<init>", desc := "()V" } : MethodName) "PolarPlanimeter", Cond.methodLinkNest "PolarPlanimeter$Follower" 45 ({ cls := "PolarPlanimeter$Arm", name := "fit", desc := "(LPolarPlanimeter$State;)V" } : MethodName) "PolarPlanimeter", Cond.methodLinkNest "PolarPlanimeter$Follower" 61 ({ cls := "PolarPlanimeter$Outline", name := "steps", desc := "(II)I" } : MethodName) "PolarPlanimeter", Cond.methodLinkNest "PolarPlanimeter$Follower" 65 ({ cls := "PolarPlanimeter$Outline", name := "fineX", desc := "(III)J" } : MethodName) "PolarPlanimeter", Cond.methodLinkNest "PolarPlanimeter$Follower" 69 ({ cls := "PolarPlanimeter$Outline", name := "fineY", desc := "(III)J" } : MethodName) "PolarPlanimeter", Cond.methodLinkNest "PolarPlanimeter$Follower" 72 ({ cls := "PolarPlanimeter$Arm", name := "squareTo", desc := "(JJ)J" } : MethodName) "PolarPlanimeter", Cond.methodLinkNest "PolarPlanimeter$Follower" 84 ({ cls := "PolarPlanimeter", name := "root", desc := "(J)J" } : MethodName) "PolarPlanimeter", Cond.methodLinkNest "PolarPlanimeter$Follower" 88 ({ cls := "PolarPlanimeter$Arm", name := "spans", desc := "(J)Z" } : MethodName) "PolarPlanimeter", Cond.methodLinkNest "PolarPlanimeter$History" 17 ({ cls := "PolarPlanimeter$State", name := "<init>", desc := "()V" } : MethodName) "PolarPlanimeter", Cond.methodLinkNest "PolarPlanimeter$History" 25 ({ cls := "PolarPlanimeter$State", name := "copy", desc := "(LPolarPlanimeter$State;)V" } : MethodName) "PolarPlanimeter", Cond.methodLinkNest "PolarPlanimeter$Mean" 39 ({ cls := "PolarPlanimeter$State", name := "constant", desc := "()J" } : MethodName) "PolarPlanimeter", Cond.methodLinkNest "PolarPlanimeter$Mean" 43 ({ cls := "PolarPlanimeter$Runs", name := "area", desc := "(IJ)J" } : MethodName) "PolarPlanimeter", Cond.methodLinkNest "PolarPlanimeter$Mean" 57 ({ cls := "PolarPlanimeter", name := "quotient", desc := "(JJ)J" } : MethodName) "PolarPlanimeter", Cond.methodLinkNest "PolarPlanimeter$Outline" 48 ({ cls := "PolarPlanimeter", name := "quotient", desc := "(JJ)J" } : MethodName) "PolarPlanimeter", Cond.methodLinkNest "PolarPlanimeter$Outline" 71 ({ cls := "PolarPlanimeter", name := "cross", desc := "(JJJJJJ)J" } : MethodName) "PolarPlanimeter", Cond.methodLinkNest "PolarPlanimeter$Outline" 75 ({ cls := "PolarPlanimeter", name := "isBetween", desc := "(III)Z" } : MethodName) "PolarPlanimeter", Cond.methodLinkNest "PolarPlanimeter$State" 21 ({ cls := "PolarPlanimeter$Outline", name := "<init>", desc := "()V" } : MethodName) "PolarPlanimeter", Cond.methodLinkNest "PolarPlanimeter$State" 28 ({ cls := "PolarPlanimeter$Runs", name := "<init>", desc := "()V" } : MethodName) "PolarPlanimeter", Cond.methodLinkNest "PolarPlanimeter$State" 48 ({ cls := "PolarPlanimeter$Outline", name := "copy", desc := "(LPolarPlanimeter$Outline;)V" } : MethodName) "PolarPlanimeter", Cond.methodLinkNest "PolarPlanimeter$State" 52 ({ cls := "PolarPlanimeter$Runs", name := "copy", desc := "(LPolarPlanimeter$Runs;)V" } : MethodName) "PolarPlanimeter", Cond.methodLinkNest "PolarPlanimeter$State" 55 ({ cls := "PolarPlanimeter$Outline", name := "windingAround", desc := "(II)J" } : MethodName) "PolarPlanimeter", Cond.methodLinkNest "PolarPlanimeter$TextReader" 41 ({ cls := "PolarPlanimeter$Outline", name := "put", desc := "(IIII)V" } : MethodName) "PolarPlanimeter"]
theorem nwF0 : Cond.fieldLinkNest "PolarPlanimeter" 100 "PolarPlanimeter$State" "outline" "LPolarPlanimeter$Outline;" "PolarPlanimeter" ∈ nestF := List.mem_of_getElem? (i := 0) rfl
theorem nwF1 : Cond.fieldLinkNest "PolarPlanimeter" 104 "PolarPlanimeter$Outline" "corners" "I" "PolarPlanimeter" ∈ nestF := List.mem_of_getElem? (i := 1) rfl
theorem nwF2 : Cond.fieldLinkNest "PolarPlanimeter" 129 "PolarPlanimeter$Outline" "xs" "[I" "PolarPlanimeter" ∈ nestF := List.mem_of_getElem? (i := 2) rfl
theorem nwF3 : Cond.fieldLinkNest "PolarPlanimeter" 132 "PolarPlanimeter$Outline" "ys" "[I" "PolarPlanimeter" ∈ nestF := List.mem_of_getElem? (i := 3) rfl
theorem nwF4 : Cond.fieldLinkNest "PolarPlanimeter" 140 "PolarPlanimeter$Outline" "slips" "[I" "PolarPlanimeter" ∈ nestF := List.mem_of_getElem? (i := 4) rfl
theorem nwF5 : Cond.fieldLinkNest "PolarPlanimeter" 160 "PolarPlanimeter$Runs" "made" "I" "PolarPlanimeter" ∈ nestF := List.mem_of_getElem? (i := 5) rfl
theorem nwF6 : Cond.fieldLinkNest "PolarPlanimeter" 184 "PolarPlanimeter$History" "saved" "I" "PolarPlanimeter" ∈ nestF := List.mem_of_getElem? (i := 6) rfl
theorem nwF7 : Cond.fieldLinkNest "PolarPlanimeter" 207 "PolarPlanimeter$Follower" "arm" "LPolarPlanimeter$Arm;" "PolarPlanimeter" ∈ nestF := List.mem_of_getElem? (i := 7) rfl
theorem nwF8 : Cond.fieldLinkNest "PolarPlanimeter" 220 "PolarPlanimeter$Arm" "elbowX" "J" "PolarPlanimeter" ∈ nestF := List.mem_of_getElem? (i := 8) rfl
theorem nwF9 : Cond.fieldLinkNest "PolarPlanimeter" 224 "PolarPlanimeter$Arm" "elbowY" "J" "PolarPlanimeter" ∈ nestF := List.mem_of_getElem? (i := 9) rfl
theorem nwF10 : Cond.fieldLinkNest "PolarPlanimeter" 297 "PolarPlanimeter$Runs" "corners" "[I" "PolarPlanimeter" ∈ nestF := List.mem_of_getElem? (i := 10) rfl
theorem nwF11 : Cond.fieldLinkNest "PolarPlanimeter" 299 "PolarPlanimeter$Runs" "backward" "[Z" "PolarPlanimeter" ∈ nestF := List.mem_of_getElem? (i := 11) rfl
theorem nwF12 : Cond.fieldLinkNest "PolarPlanimeter" 303 "PolarPlanimeter$Runs" "sums" "[J" "PolarPlanimeter" ∈ nestF := List.mem_of_getElem? (i := 12) rfl
theorem nwF13 : Cond.fieldLinkNest "PolarPlanimeter" 321 "PolarPlanimeter$Mean" "leftOut" "[Z" "PolarPlanimeter" ∈ nestF := List.mem_of_getElem? (i := 13) rfl
theorem nwF14 : Cond.fieldLinkNest "PolarPlanimeter" 330 "PolarPlanimeter$Mean" "value" "J" "PolarPlanimeter" ∈ nestF := List.mem_of_getElem? (i := 14) rfl
theorem nwF15 : Cond.fieldLinkNest "PolarPlanimeter" 333 "PolarPlanimeter$Mean" "kept" "I" "PolarPlanimeter" ∈ nestF := List.mem_of_getElem? (i := 15) rfl
theorem nwF16 : Cond.fieldLinkNest "PolarPlanimeter" 66 "PolarPlanimeter$State" "anchorX" "I" "PolarPlanimeter" ∈ nestF := List.mem_of_getElem? (i := 16) rfl
theorem nwF17 : Cond.fieldLinkNest "PolarPlanimeter" 70 "PolarPlanimeter$State" "anchorY" "I" "PolarPlanimeter" ∈ nestF := List.mem_of_getElem? (i := 17) rfl
theorem nwF18 : Cond.fieldLinkNest "PolarPlanimeter" 73 "PolarPlanimeter$State" "runs" "LPolarPlanimeter$Runs;" "PolarPlanimeter" ∈ nestF := List.mem_of_getElem? (i := 18) rfl
theorem nwF19 : Cond.fieldLinkNest "PolarPlanimeter" 91 "PolarPlanimeter$State" "settings" "[I" "PolarPlanimeter" ∈ nestF := List.mem_of_getElem? (i := 19) rfl
theorem nwF20 : Cond.fieldLinkNest "PolarPlanimeter" 97 "PolarPlanimeter$State" "tolerance" "I" "PolarPlanimeter" ∈ nestF := List.mem_of_getElem? (i := 20) rfl
theorem nwF21 : Cond.fieldLinkNest "PolarPlanimeter$Arm" 11 "PolarPlanimeter$State" "anchorX" "I" "PolarPlanimeter" ∈ nestF := List.mem_of_getElem? (i := 21) rfl
theorem nwF22 : Cond.fieldLinkNest "PolarPlanimeter$Arm" 22 "PolarPlanimeter$State" "anchorY" "I" "PolarPlanimeter" ∈ nestF := List.mem_of_getElem? (i := 22) rfl
theorem nwF23 : Cond.fieldLinkNest "PolarPlanimeter$Arm" 27 "PolarPlanimeter$State" "settings" "[I" "PolarPlanimeter" ∈ nestF := List.mem_of_getElem? (i := 23) rfl
theorem nwF24 : Cond.fieldLinkNest "PolarPlanimeter$Follower" 108 "PolarPlanimeter$Outline" "xs" "[I" "PolarPlanimeter" ∈ nestF := List.mem_of_getElem? (i := 24) rfl
theorem nwF25 : Cond.fieldLinkNest "PolarPlanimeter$Follower" 111 "PolarPlanimeter$Outline" "ys" "[I" "PolarPlanimeter" ∈ nestF := List.mem_of_getElem? (i := 25) rfl
theorem nwF26 : Cond.fieldLinkNest "PolarPlanimeter$Follower" 129 "PolarPlanimeter$Wheel" "counted" "J" "PolarPlanimeter" ∈ nestF := List.mem_of_getElem? (i := 26) rfl
theorem nwF27 : Cond.fieldLinkNest "PolarPlanimeter$Follower" 132 "PolarPlanimeter$Outline" "slips" "[I" "PolarPlanimeter" ∈ nestF := List.mem_of_getElem? (i := 27) rfl
theorem nwF28 : Cond.fieldLinkNest "PolarPlanimeter$Follower" 29 "PolarPlanimeter$State" "outline" "LPolarPlanimeter$Outline;" "PolarPlanimeter" ∈ nestF := List.mem_of_getElem? (i := 28) rfl
theorem nwF29 : Cond.fieldLinkNest "PolarPlanimeter$Follower" 35 "PolarPlanimeter$Outline" "corners" "I" "PolarPlanimeter" ∈ nestF := List.mem_of_getElem? (i := 29) rfl
theorem nwF30 : Cond.fieldLinkNest "PolarPlanimeter$Follower" 57 "PolarPlanimeter$State" "settings" "[I" "PolarPlanimeter" ∈ nestF := List.mem_of_getElem? (i := 30) rfl
theorem nwF31 : Cond.fieldLinkNest "PolarPlanimeter$Follower" 94 "PolarPlanimeter$Arm" "tracer" "J" "PolarPlanimeter" ∈ nestF := List.mem_of_getElem? (i := 31) rfl
theorem nwF32 : Cond.fieldLinkNest "PolarPlanimeter$Mean" 22 "PolarPlanimeter$State" "runs" "LPolarPlanimeter$Runs;" "PolarPlanimeter" ∈ nestF := List.mem_of_getElem? (i := 32) rfl
theorem nwF33 : Cond.fieldLinkNest "PolarPlanimeter$Mean" 28 "PolarPlanimeter$Runs" "made" "I" "PolarPlanimeter" ∈ nestF := List.mem_of_getElem? (i := 33) rfl
theorem nwF34 : Cond.fieldLinkNest "PolarPlanimeter$Mean" 47 "PolarPlanimeter$State" "tolerance" "I" "PolarPlanimeter" ∈ nestF := List.mem_of_getElem? (i := 34) rfl
theorem nwF35 : Cond.fieldLinkNest "PolarPlanimeter$State" 33 "PolarPlanimeter" "AT_FIRST" "[I" "PolarPlanimeter" ∈ nestF := List.mem_of_getElem? (i := 35) rfl
theorem nwF36 : Cond.fieldLinkNest "PolarPlanimeter$TextReader" 36 "PolarPlanimeter$Outline" "corners" "I" "PolarPlanimeter" ∈ nestF := List.mem_of_getElem? (i := 36) rfl
theorem nwM0 : Cond.methodLinkNest "PolarPlanimeter" 122 ({ cls := "PolarPlanimeter$Outline", name := "open", desc := "(III)V" } : MethodName) "PolarPlanimeter" ∈ nestM := List.mem_of_getElem? (i := 0) rfl
theorem nwM1 : Cond.methodLinkNest "PolarPlanimeter" 135 ({ cls := "PolarPlanimeter$Outline", name := "close", desc := "(I)V" } : MethodName) "PolarPlanimeter" ∈ nestM := List.mem_of_getElem? (i := 1) rfl
theorem nwM2 : Cond.methodLinkNest "PolarPlanimeter" 152 ({ cls := "PolarPlanimeter$Follower", name := "sum", desc := "(LPolarPlanimeter$State;IZ)J" } : MethodName) "PolarPlanimeter" ∈ nestM := List.mem_of_getElem? (i := 2) rfl
theorem nwM3 : Cond.methodLinkNest "PolarPlanimeter" 156 ({ cls := "PolarPlanimeter$Runs", name := "add", desc := "(IZJ)V" } : MethodName) "PolarPlanimeter" ∈ nestM := List.mem_of_getElem? (i := 3) rfl
theorem nwM4 : Cond.methodLinkNest "PolarPlanimeter" 170 ({ cls := "PolarPlanimeter$TextReader", name := "read", desc := "([II)I" } : MethodName) "PolarPlanimeter" ∈ nestM := List.mem_of_getElem? (i := 4) rfl
theorem nwM5 : Cond.methodLinkNest "PolarPlanimeter" 174 ({ cls := "PolarPlanimeter$TextReader", name := "isComplete", desc := "()Z" } : MethodName) "PolarPlanimeter" ∈ nestM := List.mem_of_getElem? (i := 5) rfl
theorem nwM6 : Cond.methodLinkNest "PolarPlanimeter" 180 ({ cls := "PolarPlanimeter$TextReader", name := "putInto", desc := "(LPolarPlanimeter$Outline;)V" } : MethodName) "PolarPlanimeter" ∈ nestM := List.mem_of_getElem? (i := 6) rfl
theorem nwM7 : Cond.methodLinkNest "PolarPlanimeter" 189 ({ cls := "PolarPlanimeter$History", name := "restore", desc := "(LPolarPlanimeter$State;)V" } : MethodName) "PolarPlanimeter" ∈ nestM := List.mem_of_getElem? (i := 7) rfl
theorem nwM8 : Cond.methodLinkNest "PolarPlanimeter" 21 ({ cls := "PolarPlanimeter$History", name := "<init>", desc := "()V" } : MethodName) "PolarPlanimeter" ∈ nestM := List.mem_of_getElem? (i := 8) rfl
theorem nwM9 : Cond.methodLinkNest "PolarPlanimeter" 211 ({ cls := "PolarPlanimeter$Arm", name := "fit", desc := "(LPolarPlanimeter$State;)V" } : MethodName) "PolarPlanimeter" ∈ nestM := List.mem_of_getElem? (i := 9) rfl
theorem nwM10 : Cond.methodLinkNest "PolarPlanimeter" 216 ({ cls := "PolarPlanimeter$Arm", name := "place", desc := "(JJ)Z" } : MethodName) "PolarPlanimeter" ∈ nestM := List.mem_of_getElem? (i := 10) rfl
theorem nwM11 : Cond.methodLinkNest "PolarPlanimeter" 231 ({ cls := "PolarPlanimeter$State", name := "copy", desc := "(LPolarPlanimeter$State;)V" } : MethodName) "PolarPlanimeter" ∈ nestM := List.mem_of_getElem? (i := 11) rfl
theorem nwM12 : Cond.methodLinkNest "PolarPlanimeter" 234 ({ cls := "PolarPlanimeter$Follower", name := "measureAll", desc := "(LPolarPlanimeter$State;)V" } : MethodName) "PolarPlanimeter" ∈ nestM := List.mem_of_getElem? (i := 12) rfl
theorem nwM13 : Cond.methodLinkNest "PolarPlanimeter" 243 ({ cls := "PolarPlanimeter$Follower", name := "reachesMeasuredWith", desc := "(I)Z" } : MethodName) "PolarPlanimeter" ∈ nestM := List.mem_of_getElem? (i := 13) rfl
theorem nwM14 : Cond.methodLinkNest "PolarPlanimeter" 247 ({ cls := "PolarPlanimeter$Outline", name := "area", desc := "()J" } : MethodName) "PolarPlanimeter" ∈ nestM := List.mem_of_getElem? (i := 14) rfl
theorem nwM15 : Cond.methodLinkNest "PolarPlanimeter" 276 ({ cls := "PolarPlanimeter$Outline", name := "touches", desc := "(II)Z" } : MethodName) "PolarPlanimeter" ∈ nestM := List.mem_of_getElem? (i := 15) rfl
theorem nwM16 : Cond.methodLinkNest "PolarPlanimeter" 279 ({ cls := "PolarPlanimeter$Follower", name := "reachesMeasured", desc := "()Z" } : MethodName) "PolarPlanimeter" ∈ nestM := List.mem_of_getElem? (i := 16) rfl
theorem nwM17 : Cond.methodLinkNest "PolarPlanimeter" 28 ({ cls := "PolarPlanimeter$Follower", name := "<init>", desc := "()V" } : MethodName) "PolarPlanimeter" ∈ nestM := List.mem_of_getElem? (i := 17) rfl
theorem nwM18 : Cond.methodLinkNest "PolarPlanimeter" 282 ({ cls := "PolarPlanimeter$Outline", name := "steps", desc := "(II)I" } : MethodName) "PolarPlanimeter" ∈ nestM := List.mem_of_getElem? (i := 18) rfl
theorem nwM19 : Cond.methodLinkNest "PolarPlanimeter" 289 ({ cls := "PolarPlanimeter$Follower", name := "roll", desc := "(LPolarPlanimeter$State;I)J" } : MethodName) "PolarPlanimeter" ∈ nestM := List.mem_of_getElem? (i := 19) rfl
theorem nwM20 : Cond.methodLinkNest "PolarPlanimeter" 293 ({ cls := "PolarPlanimeter$Follower", name := "measureOne", desc := "(LPolarPlanimeter$State;I)V" } : MethodName) "PolarPlanimeter" ∈ nestM := List.mem_of_getElem? (i := 20) rfl
theorem nwM21 : Cond.methodLinkNest "PolarPlanimeter" 312 ({ cls := "PolarPlanimeter$State", name := "constant", desc := "()J" } : MethodName) "PolarPlanimeter" ∈ nestM := List.mem_of_getElem? (i := 21) rfl
theorem nwM22 : Cond.methodLinkNest "PolarPlanimeter" 315 ({ cls := "PolarPlanimeter$Runs", name := "area", desc := "(IJ)J" } : MethodName) "PolarPlanimeter" ∈ nestM := List.mem_of_getElem? (i := 22) rfl
theorem nwM23 : Cond.methodLinkNest "PolarPlanimeter" 318 ({ cls := "PolarPlanimeter$Mean", name := "take", desc := "(LPolarPlanimeter$State;)V" } : MethodName) "PolarPlanimeter" ∈ nestM := List.mem_of_getElem? (i := 23) rfl
theorem nwM24 : Cond.methodLinkNest "PolarPlanimeter" 324 ({ cls := "PolarPlanimeter$Outline", name := "twiceArea", desc := "()J" } : MethodName) "PolarPlanimeter" ∈ nestM := List.mem_of_getElem? (i := 24) rfl
theorem nwM25 : Cond.methodLinkNest "PolarPlanimeter" 327 ({ cls := "PolarPlanimeter$State", name := "winding", desc := "()J" } : MethodName) "PolarPlanimeter" ∈ nestM := List.mem_of_getElem? (i := 25) rfl
theorem nwM26 : Cond.methodLinkNest "PolarPlanimeter" 336 ({ cls := "PolarPlanimeter$Outline", name := "allSteps", desc := "(I)J" } : MethodName) "PolarPlanimeter" ∈ nestM := List.mem_of_getElem? (i := 26) rfl
theorem nwM27 : Cond.methodLinkNest "PolarPlanimeter" 35 ({ cls := "PolarPlanimeter$Mean", name := "<init>", desc := "()V" } : MethodName) "PolarPlanimeter" ∈ nestM := List.mem_of_getElem? (i := 27) rfl
theorem nwM28 : Cond.methodLinkNest "PolarPlanimeter" 42 ({ cls := "PolarPlanimeter$TextReader", name := "<init>", desc := "()V" } : MethodName) "PolarPlanimeter" ∈ nestM := List.mem_of_getElem? (i := 28) rfl
theorem nwM29 : Cond.methodLinkNest "PolarPlanimeter" 62 ({ cls := "PolarPlanimeter$History", name := "save", desc := "(LPolarPlanimeter$State;)V" } : MethodName) "PolarPlanimeter" ∈ nestM := List.mem_of_getElem? (i := 29) rfl
theorem nwM30 : Cond.methodLinkNest "PolarPlanimeter" 77 ({ cls := "PolarPlanimeter$Runs", name := "clear", desc := "()I" } : MethodName) "PolarPlanimeter" ∈ nestM := List.mem_of_getElem? (i := 30) rfl
theorem nwM31 : Cond.methodLinkNest "PolarPlanimeter" 9 ({ cls := "PolarPlanimeter$State", name := "<init>", desc := "()V" } : MethodName) "PolarPlanimeter" ∈ nestM := List.mem_of_getElem? (i := 31) rfl
theorem nwM32 : Cond.methodLinkNest "PolarPlanimeter$Arm" 63 ({ cls := "PolarPlanimeter", name := "root", desc := "(J)J" } : MethodName) "PolarPlanimeter" ∈ nestM := List.mem_of_getElem? (i := 32) rfl
theorem nwM33 : Cond.methodLinkNest "PolarPlanimeter$Arm" 72 ({ cls := "PolarPlanimeter", name := "quotient", desc := "(JJ)J" } : MethodName) "PolarPlanimeter" ∈ nestM := List.mem_of_getElem? (i := 33) rfl
theorem nwM34 : Cond.methodLinkNest "PolarPlanimeter$Arm" 82 ({ cls := "PolarPlanimeter", name := "cross", desc := "(JJJJJJ)J" } : MethodName) "PolarPlanimeter" ∈ nestM := List.mem_of_getElem? (i := 34) rfl
theorem nwM35 : Cond.methodLinkNest "PolarPlanimeter$Follower" 101 ({ cls := "PolarPlanimeter$Arm", name := "place", desc := "(JJ)Z" } : MethodName) "PolarPlanimeter" ∈ nestM := List.mem_of_getElem? (i := 35) rfl
theorem nwM36 : Cond.methodLinkNest "PolarPlanimeter$Follower" 105 ({ cls := "PolarPlanimeter$Arm", name := "sweepTo", desc := "(JJ)J" } : MethodName) "PolarPlanimeter" ∈ nestM := List.mem_of_getElem? (i := 36) rfl
theorem nwM37 : Cond.methodLinkNest "PolarPlanimeter$Follower" 11 ({ cls := "PolarPlanimeter$Arm", name := "<init>", desc := "()V" } : MethodName) "PolarPlanimeter" ∈ nestM := List.mem_of_getElem? (i := 37) rfl
theorem nwM38 : Cond.methodLinkNest "PolarPlanimeter$Follower" 114 ({ cls := "PolarPlanimeter$Wheel", name := "start", desc := "(I)V" } : MethodName) "PolarPlanimeter" ∈ nestM := List.mem_of_getElem? (i := 38) rfl
theorem nwM39 : Cond.methodLinkNest "PolarPlanimeter$Follower" 118 ({ cls := "PolarPlanimeter$Outline", name := "previous", desc := "(I)I" } : MethodName) "PolarPlanimeter" ∈ nestM := List.mem_of_getElem? (i := 39) rfl
theorem nwM40 : Cond.methodLinkNest "PolarPlanimeter$Follower" 126 ({ cls := "PolarPlanimeter$Outline", name := "next", desc := "(I)I" } : MethodName) "PolarPlanimeter" ∈ nestM := List.mem_of_getElem? (i := 40) rfl
theorem nwM41 : Cond.methodLinkNest "PolarPlanimeter$Follower" 135 ({ cls := "PolarPlanimeter$Wheel", name := "turn", desc := "(JI)V" } : MethodName) "PolarPlanimeter" ∈ nestM := List.mem_of_getElem? (i := 41) rfl
theorem nwM42 : Cond.methodLinkNest "PolarPlanimeter$Follower" 20 ({ cls := "PolarPlanimeter$Wheel", name := "<init>", desc := "()V" } : MethodName) "PolarPlanimeter" ∈ nestM := List.mem_of_getElem? (i := 42) rfl
theorem nwM43 : Cond.methodLinkNest "PolarPlanimeter$Follower" 45 ({ cls := "PolarPlanimeter$Arm", name := "fit", desc := "(LPolarPlanimeter$State;)V" } : MethodName) "PolarPlanimeter" ∈ nestM := List.mem_of_getElem? (i := 43) rfl
theorem nwM44 : Cond.methodLinkNest "PolarPlanimeter$Follower" 61 ({ cls := "PolarPlanimeter$Outline", name := "steps", desc := "(II)I" } : MethodName) "PolarPlanimeter" ∈ nestM := List.mem_of_getElem? (i := 44) rfl
theorem nwM45 : Cond.methodLinkNest "PolarPlanimeter$Follower" 65 ({ cls := "PolarPlanimeter$Outline", name := "fineX", desc := "(III)J" } : MethodName) "PolarPlanimeter" ∈ nestM := List.mem_of_getElem? (i := 45) rfl
theorem nwM46 : Cond.methodLinkNest "PolarPlanimeter$Follower" 69 ({ cls := "PolarPlanimeter$Outline", name := "fineY", desc := "(III)J" } : MethodName) "PolarPlanimeter" ∈ nestM := List.mem_of_getElem? (i := 46) rfl
theorem nwM47 : Cond.methodLinkNest "PolarPlanimeter$Follower" 72 ({ cls := "PolarPlanimeter$Arm", name := "squareTo", desc := "(JJ)J" } : MethodName) "PolarPlanimeter" ∈ nestM := List.mem_of_getElem? (i := 47) rfl
theorem nwM48 : Cond.methodLinkNest "PolarPlanimeter$Follower" 84 ({ cls := "PolarPlanimeter", name := "root", desc := "(J)J" } : MethodName) "PolarPlanimeter" ∈ nestM := List.mem_of_getElem? (i := 48) rfl
theorem nwM49 : Cond.methodLinkNest "PolarPlanimeter$Follower" 88 ({ cls := "PolarPlanimeter$Arm", name := "spans", desc := "(J)Z" } : MethodName) "PolarPlanimeter" ∈ nestM := List.mem_of_getElem? (i := 49) rfl
theorem nwM50 : Cond.methodLinkNest "PolarPlanimeter$History" 17 ({ cls := "PolarPlanimeter$State", name := "<init>", desc := "()V" } : MethodName) "PolarPlanimeter" ∈ nestM := List.mem_of_getElem? (i := 50) rfl
theorem nwM51 : Cond.methodLinkNest "PolarPlanimeter$History" 25 ({ cls := "PolarPlanimeter$State", name := "copy", desc := "(LPolarPlanimeter$State;)V" } : MethodName) "PolarPlanimeter" ∈ nestM := List.mem_of_getElem? (i := 51) rfl
theorem nwM52 : Cond.methodLinkNest "PolarPlanimeter$Mean" 39 ({ cls := "PolarPlanimeter$State", name := "constant", desc := "()J" } : MethodName) "PolarPlanimeter" ∈ nestM := List.mem_of_getElem? (i := 52) rfl
theorem nwM53 : Cond.methodLinkNest "PolarPlanimeter$Mean" 43 ({ cls := "PolarPlanimeter$Runs", name := "area", desc := "(IJ)J" } : MethodName) "PolarPlanimeter" ∈ nestM := List.mem_of_getElem? (i := 53) rfl
theorem nwM54 : Cond.methodLinkNest "PolarPlanimeter$Mean" 57 ({ cls := "PolarPlanimeter", name := "quotient", desc := "(JJ)J" } : MethodName) "PolarPlanimeter" ∈ nestM := List.mem_of_getElem? (i := 54) rfl
theorem nwM55 : Cond.methodLinkNest "PolarPlanimeter$Outline" 48 ({ cls := "PolarPlanimeter", name := "quotient", desc := "(JJ)J" } : MethodName) "PolarPlanimeter" ∈ nestM := List.mem_of_getElem? (i := 55) rfl
theorem nwM56 : Cond.methodLinkNest "PolarPlanimeter$Outline" 71 ({ cls := "PolarPlanimeter", name := "cross", desc := "(JJJJJJ)J" } : MethodName) "PolarPlanimeter" ∈ nestM := List.mem_of_getElem? (i := 56) rfl
theorem nwM57 : Cond.methodLinkNest "PolarPlanimeter$Outline" 75 ({ cls := "PolarPlanimeter", name := "isBetween", desc := "(III)Z" } : MethodName) "PolarPlanimeter" ∈ nestM := List.mem_of_getElem? (i := 57) rfl
theorem nwM58 : Cond.methodLinkNest "PolarPlanimeter$State" 21 ({ cls := "PolarPlanimeter$Outline", name := "<init>", desc := "()V" } : MethodName) "PolarPlanimeter" ∈ nestM := List.mem_of_getElem? (i := 58) rfl
theorem nwM59 : Cond.methodLinkNest "PolarPlanimeter$State" 28 ({ cls := "PolarPlanimeter$Runs", name := "<init>", desc := "()V" } : MethodName) "PolarPlanimeter" ∈ nestM := List.mem_of_getElem? (i := 59) rfl
theorem nwM60 : Cond.methodLinkNest "PolarPlanimeter$State" 48 ({ cls := "PolarPlanimeter$Outline", name := "copy", desc := "(LPolarPlanimeter$Outline;)V" } : MethodName) "PolarPlanimeter" ∈ nestM := List.mem_of_getElem? (i := 60) rfl
theorem nwM61 : Cond.methodLinkNest "PolarPlanimeter$State" 52 ({ cls := "PolarPlanimeter$Runs", name := "copy", desc := "(LPolarPlanimeter$Runs;)V" } : MethodName) "PolarPlanimeter" ∈ nestM := List.mem_of_getElem? (i := 61) rfl
theorem nwM62 : Cond.methodLinkNest "PolarPlanimeter$State" 55 ({ cls := "PolarPlanimeter$Outline", name := "windingAround", desc := "(II)J" } : MethodName) "PolarPlanimeter" ∈ nestM := List.mem_of_getElem? (i := 62) rfl
theorem nwM63 : Cond.methodLinkNest "PolarPlanimeter$TextReader" 41 ({ cls := "PolarPlanimeter$Outline", name := "put", desc := "(IIII)V" } : MethodName) "PolarPlanimeter" ∈ nestM := List.mem_of_getElem? (i := 63) rfl
def txts : List (Nat × String) := [(57, "the anchor is out of range"), (95, "the tolerance is out of range"), (111, "a corner can't be inserted there"), (119, "there are 20 corners"), (138, "the slip is out of range"), (150, "the run is refused"), (163, "the code is not 33 to 126"), (168, "the buffer has 60 characters"), (178, "the buffer is not a complete outline"), (187, "there is no saved state"), (199, "there is no such run"), (205, "the tracer is out of range"), (266, "there is no such setting"), (268, "the value is out of range"), (270, "the corner is out of range"), (272, "there is no such number"), (274, "there is no such corner")]
theorem tx57 : ((57, "the anchor is out of range") : Nat × String) ∈ txts := List.mem_of_getElem? (i := 0) rfl
theorem tx95 : ((95, "the tolerance is out of range") : Nat × String) ∈ txts := List.mem_of_getElem? (i := 1) rfl
theorem tx111 : ((111, "a corner can't be inserted there") : Nat × String) ∈ txts := List.mem_of_getElem? (i := 2) rfl
theorem tx119 : ((119, "there are 20 corners") : Nat × String) ∈ txts := List.mem_of_getElem? (i := 3) rfl
theorem tx138 : ((138, "the slip is out of range") : Nat × String) ∈ txts := List.mem_of_getElem? (i := 4) rfl
theorem tx150 : ((150, "the run is refused") : Nat × String) ∈ txts := List.mem_of_getElem? (i := 5) rfl
theorem tx163 : ((163, "the code is not 33 to 126") : Nat × String) ∈ txts := List.mem_of_getElem? (i := 6) rfl
theorem tx168 : ((168, "the buffer has 60 characters") : Nat × String) ∈ txts := List.mem_of_getElem? (i := 7) rfl
theorem tx178 : ((178, "the buffer is not a complete outline") : Nat × String) ∈ txts := List.mem_of_getElem? (i := 8) rfl
theorem tx187 : ((187, "there is no saved state") : Nat × String) ∈ txts := List.mem_of_getElem? (i := 9) rfl
theorem tx199 : ((199, "there is no such run") : Nat × String) ∈ txts := List.mem_of_getElem? (i := 10) rfl
theorem tx205 : ((205, "the tracer is out of range") : Nat × String) ∈ txts := List.mem_of_getElem? (i := 11) rfl
theorem tx266 : ((266, "there is no such setting") : Nat × String) ∈ txts := List.mem_of_getElem? (i := 12) rfl
theorem tx268 : ((268, "the value is out of range") : Nat × String) ∈ txts := List.mem_of_getElem? (i := 13) rfl
theorem tx270 : ((270, "the corner is out of range") : Nat × String) ∈ txts := List.mem_of_getElem? (i := 14) rfl
theorem tx272 : ((272, "there is no such number") : Nat × String) ∈ txts := List.mem_of_getElem? (i := 15) rfl
theorem tx274 : ((274, "there is no such corner") : Nat × String) ∈ txts := List.mem_of_getElem? (i := 16) rfl
end
section
/-! THE POOL: one memory for all cells, by address and slot; shape (addresses, kinds, lengths), references, ints, longs -/
abbrev PS : Type := (List Nat × (Nat → Nat) × (Nat → Nat)) × (Nat → Nat → Option Nat) × (Nat → Nat → Int32) × (Nat → Nat → Int64)
abbrev pL (S : PS) : List Nat := S.1.1
abbrev pK (S : PS) : Nat → Nat := S.1.2.1
abbrev pN (S : PS) : Nat → Nat := S.1.2.2
abbrev pR (S : PS) : Nat → Nat → Option Nat := S.2.1
abbrev pI (S : PS) : Nat → Nat → Int32 := S.2.2.1
abbrev pJ (S : PS) : Nat → Nat → Int64 := S.2.2.2
def up2 {α : Type} (f : Nat → Nat → α) (a k : Nat) (v : α) : Nat → Nat → α := fun b j => if b = a then (if j = k then v else f b j) else f b j
def upr {α : Type} (f : Nat → Nat → α) (a : Nat) (g : Nat → α) : Nat → Nat → α := fun b => if b = a then g else f b
abbrev wI (S : PS) (a k : Nat) (v : Int32) : PS := (S.1, S.2.1, up2 S.2.2.1 a k v, S.2.2.2)
abbrev wJ (S : PS) (a k : Nat) (v : Int64) : PS := (S.1, S.2.1, S.2.2.1, up2 S.2.2.2 a k v)
abbrev wR (S : PS) (a k : Nat) (v : Option Nat) : PS := (S.1, up2 S.2.1 a k v, S.2.2.1, S.2.2.2)
abbrev wIr (S : PS) (a : Nat) (g : Nat → Int32) : PS := (S.1, S.2.1, upr S.2.2.1 a g, S.2.2.2)
theorem up2_s {α : Type} {f : Nat → Nat → α} {a k : Nat} {v : α} : up2 f a k v a k = v := by simp [up2]
theorem up2_a {α : Type} {f : Nat → Nat → α} {a k b j : Nat} {v : α} (h : b ≠ a) : up2 f a k v b j = f b j := by simp [up2, h]
theorem up2_k {α : Type} {f : Nat → Nat → α} {a k b j : Nat} {v : α} (h : j ≠ k) : up2 f a k v b j = f b j := by simp [up2, h]
theorem up2_r {α : Type} {f : Nat → Nat → α} {a k b : Nat} {v : α} (h : b ≠ a) : up2 f a k v b = f b := by funext j; simp [up2, h]
theorem up2_upd {f : Nat → Nat → Int32} {a k : Nat} {v : Int32} : up2 f a k v a = upd (f a) k v := by funext j; simp [up2, upd]
theorem up2_updL {f : Nat → Nat → Int64} {a k : Nat} {v : Int64} : up2 f a k v a = vp_updL (f a) k v := by funext j; simp [up2, vp_updL]
theorem up2_up {α : Type} {f : Nat → Nat → α} {a k : Nat} {v : α} : up2 f a k v a = va_up (f a) k v := by funext j; simp [up2, va_up]
theorem upr_s {α : Type} {f : Nat → Nat → α} {a : Nat} {g : Nat → α} : upr f a g a = g := by simp [upr]
theorem upr_a {α : Type} {f : Nat → Nat → α} {a b : Nat} {g : Nat → α} (h : b ≠ a) : upr f a g b = f b := by simp [upr, h]
/-- how many fields, and of which type each: 0 int or boolean, 1 long, 2 reference -/
def nf (c : Nat) : Nat := [9, 4, 2, 6, 4, 4, 6, 7, 3, 9, 18].getD c 0
def ftl (c : Nat) : List Nat := [[1, 1, 1, 1, 0, 1, 1, 1, 1], [2, 2, 1, 1], [0, 2], [2, 2, 2, 0, 0, 1], [0, 2, 2, 2], [0, 2, 2, 2], [0, 0, 0, 2, 2, 2], [2, 2, 0, 0, 0, 0, 0], [1, 1, 1], [2, 2, 2, 2, 2, 2, 2, 0, 0], [0, 2, 0, 2, 0, 0, 2, 1, 1, 1, 1, 2, 0, 0, 0, 0, 2, 1]].getD c []
def ft (c k : Nat) : Nat := (ftl c).getD k 0
def fv (t : Nat) (S : PS) (a k : Nat) : Value := if t = 0 then .int (pI S a k) else if t = 1 then .long (pJ S a k) else va_rf (pR S a k)
def cF (c : Nat) (S : PS) (a : Nat) : List Value := (List.range (nf c)).map (fun k => fv (ft c k) S a k)
abbrev Cy : Type := ClassId × ClassId × ClassId × ClassId
def cE (cy : Cy) (S : PS) (a : Nat) : va_E :=
  if pK S a < 11 then .inr (pK S a, cF (pK S a) S a)
  else if pK S a = 11 then .inl (cy.1, pN S a, .inl (pI S a))
  else if pK S a = 12 then .inl (cy.2.1, pN S a, .inr (.inl (pJ S a)))
  else if pK S a = 13 then .inl (cy.2.2.1, pN S a, .inl (pI S a))
  else .inl (cy.2.2.2, pN S a, .inr (.inr (.inr (.inr (pR S a)))))
def mP (cy : Cy) (S : PS) : va_W := va_pl (pL S) (cE cy S)
def mT (cy : Cy) : List (ClassId × FieldType) := [(cy.1, .int), (cy.2.1, .long), (cy.2.2.1, .boolean), (cy.2.2.2, .object "PolarPlanimeter$State")]
theorem mP_nil (cy : Cy) (S : PS) : mP cy S = [] ++ va_pl (pL S) (cE cy S) := rfl
theorem cE_o {cy : Cy} {S : PS} {a c : Nat} (h : pK S a = c) (hc : c < 11) : cE cy S a = .inr (c, cF c S a) := by simp [cE, h, hc]
theorem cE_i {cy : Cy} {S : PS} {a : Nat} (h : pK S a = 11) : cE cy S a = .inl (cy.1, pN S a, .inl (pI S a)) := by simp [cE, h]
theorem cE_j {cy : Cy} {S : PS} {a : Nat} (h : pK S a = 12) : cE cy S a = .inl (cy.2.1, pN S a, .inr (.inl (pJ S a))) := by simp [cE, h]
theorem cE_z {cy : Cy} {S : PS} {a : Nat} (h : pK S a = 13) : cE cy S a = .inl (cy.2.2.1, pN S a, .inl (pI S a)) := by simp [cE, h]
theorem cE_q {cy : Cy} {S : PS} {a : Nat} (h : pK S a = 14) : cE cy S a = .inl (cy.2.2.2, pN S a, .inr (.inr (.inr (.inr (pR S a))))) := by simp [cE, h]
theorem cF_get {c : Nat} {S : PS} {a k : Nat} (hk : k < nf c) : (cF c S a)[k]? = some (fv (ft c k) S a k) := by simp [cF, List.getElem?_map, List.getElem?_range hk]
theorem cF_len {c : Nat} {S : PS} {a : Nat} : (cF c S a).length = nf c := by simp [cF]
theorem mP_at {cy : Cy} {S : PS} {a : Nat} {e : va_E} (hL : a ∈ pL S) (he : cE cy S a = e) : ∃ k : Nat, (mP cy S)[k]? = some (a, e) ∧ (mP cy S)[k]? = some (a, cE cy S a) := by
  obtain ⟨k, hk⟩ := va_pl_get (X := []) (f := cE cy S) hL
  exact ⟨k, by rw [← he]; exact hk, hk⟩
theorem mP_put {cy : Cy} {S S' : PS} {A : Nat → Prop} {a k : Nat} {e : va_E} (hD : va_D A (mP cy S)) (hL : a ∈ pL S) (hk : (mP cy S)[k]? = some (a, cE cy S a)) (hl : pL S' = pL S) (h : ∀ b, va_up (cE cy S) a e b = cE cy S' b) : (mP cy S).set k (a, e) = mP cy S' := by
  have h1 := va_pl_set (X := []) (e := e) hD hL hk
  show ([] ++ va_pl (pL S) (cE cy S)).set k (a, e) = va_pl (pL S') (cE cy S')
  rw [h1, hl]
  exact va_pl_congr h
theorem cF_set {c : Nat} {S S' : PS} {a k : Nat} {v : Value} (hk : k < nf c) (hv : fv (ft c k) S' a k = v) (ho : ∀ j, j ≠ k → fv (ft c j) S' a j = fv (ft c j) S a j) : (cF c S a).set k v = cF c S' a := by
  apply List.ext_getElem?
  intro j
  by_cases hj : j < nf c
  · rw [cF_get hj]
    by_cases e : j = k
    · subst e
      rw [List.getElem?_set_self (by rw [cF_len]; exact hj), hv]
    · rw [List.getElem?_set_ne (fun q => e q.symm), cF_get hj, ho j e]
  · rw [List.getElem?_eq_none (by rw [List.length_set, cF_len]; omega), List.getElem?_eq_none (by rw [cF_len]; omega)]
theorem cF_other {c : Nat} {S S' : PS} {a : Nat} (hI : pI S' a = pI S a) (hJ : pJ S' a = pJ S a) (hR : pR S' a = pR S a) : cF c S' a = cF c S a := by
  unfold cF
  apply List.map_congr_left
  intro k _
  unfold fv
  rw [hI, hJ, hR]
theorem cE_other {cy : Cy} {S S' : PS} {a : Nat} (hK : pK S' a = pK S a) (hN : pN S' a = pN S a) (hI : pI S' a = pI S a) (hJ : pJ S' a = pJ S a) (hR : pR S' a = pR S a) : cE cy S' a = cE cy S a := by
  unfold cE
  rw [hK, hN, hI, hJ, hR, cF_other hI hJ hR]
theorem upE_I {cy : Cy} {S : PS} {a c k : Nat} {v : Int32} (h : pK S a = c) (hc : c < 11) (hk : k < nf c) (ht : ft c k = 0) (b : Nat) : va_up (cE cy S) a (.inr (c, (cF c S a).set k (.int v))) b = cE cy (wI S a k v) b := by
  by_cases e : b = a
  · subst e
    rw [cE_o (S := wI S b k v) h hc]
    simp only [va_up, if_true]
    rw [cF_set (S' := wI S b k v) hk (by simp [fv, ht, up2, pI, pJ, pR, wI, wJ, wR]) (fun j hj => by simp [fv, up2, hj, pI, pJ, pR, wI, wJ, wR])]
  · simp only [va_up, if_neg e]
    exact (cE_other (S := S) (S' := wI S a k v) rfl rfl (up2_r e) rfl rfl).symm
theorem upE_J {cy : Cy} {S : PS} {a c k : Nat} {v : Int64} (h : pK S a = c) (hc : c < 11) (hk : k < nf c) (ht : ft c k = 1) (b : Nat) : va_up (cE cy S) a (.inr (c, (cF c S a).set k (.long v))) b = cE cy (wJ S a k v) b := by
  by_cases e : b = a
  · subst e
    rw [cE_o (S := wJ S b k v) h hc]
    simp only [va_up, if_true]
    rw [cF_set (S' := wJ S b k v) hk (by simp [fv, ht, up2, pI, pJ, pR, wI, wJ, wR]) (fun j hj => by simp [fv, up2, hj, pI, pJ, pR, wI, wJ, wR])]
  · simp only [va_up, if_neg e]
    exact (cE_other (S := S) (S' := wJ S a k v) rfl rfl rfl (up2_r e) rfl).symm
theorem upE_R {cy : Cy} {S : PS} {a c k : Nat} {v : Option Nat} (h : pK S a = c) (hc : c < 11) (hk : k < nf c) (ht : ft c k = 2) (b : Nat) : va_up (cE cy S) a (.inr (c, (cF c S a).set k (va_rf v))) b = cE cy (wR S a k v) b := by
  by_cases e : b = a
  · subst e
    rw [cE_o (S := wR S b k v) h hc]
    simp only [va_up, if_true]
    rw [cF_set (S' := wR S b k v) hk (by simp [fv, ht, up2, pI, pJ, pR, wI, wJ, wR]) (fun j hj => by simp [fv, up2, hj, pI, pJ, pR, wI, wJ, wR])]
  · simp only [va_up, if_neg e]
    exact (cE_other (S := S) (S' := wR S a k v) rfl rfl rfl rfl (up2_r e)).symm
theorem upE_ri {cy : Cy} {S : PS} {a : Nat} {g : Nat → Int32} (h : pK S a = 11) (b : Nat) : va_up (cE cy S) a (.inl (cy.1, pN S a, .inl g)) b = cE cy (wIr S a g) b := by
  by_cases e : b = a
  · subst e
    rw [cE_i (S := wIr S b g) h]
    simp [va_up, pI, pJ, pR, wI, wJ, wR, wIr, upr]
  · simp only [va_up, if_neg e]
    exact (cE_other (S := S) (S' := wIr S a g) rfl rfl (upr_a e) rfl rfl).symm
theorem upE_i {cy : Cy} {S : PS} {a k : Nat} {v : Int32} (h : pK S a = 11) (b : Nat) : va_up (cE cy S) a (.inl (cy.1, pN S a, .inl (upd (pI S a) k v))) b = cE cy (wI S a k v) b := by
  by_cases e : b = a
  · subst e
    rw [cE_i (S := wI S b k v) h]
    simp [va_up, pI, pJ, pR, wI, wJ, wR, wIr, up2_upd]
  · simp only [va_up, if_neg e]
    exact (cE_other (S := S) (S' := wI S a k v) rfl rfl (up2_r e) rfl rfl).symm
theorem upE_z {cy : Cy} {S : PS} {a k : Nat} {v : Int32} (h : pK S a = 13) (b : Nat) : va_up (cE cy S) a (.inl (cy.2.2.1, pN S a, .inl (upd (pI S a) k v))) b = cE cy (wI S a k v) b := by
  by_cases e : b = a
  · subst e
    rw [cE_z (S := wI S b k v) h]
    simp [va_up, pI, pJ, pR, wI, wJ, wR, wIr, up2_upd]
  · simp only [va_up, if_neg e]
    exact (cE_other (S := S) (S' := wI S a k v) rfl rfl (up2_r e) rfl rfl).symm
theorem upE_j {cy : Cy} {S : PS} {a k : Nat} {v : Int64} (h : pK S a = 12) (b : Nat) : va_up (cE cy S) a (.inl (cy.2.1, pN S a, .inr (.inl (vp_updL (pJ S a) k v)))) b = cE cy (wJ S a k v) b := by
  by_cases e : b = a
  · subst e
    rw [cE_j (S := wJ S b k v) h]
    simp [va_up, pI, pJ, pR, wI, wJ, wR, wIr, up2_updL]
  · simp only [va_up, if_neg e]
    exact (cE_other (S := S) (S' := wJ S a k v) rfl rfl rfl (up2_r e) rfl).symm
theorem upE_q {cy : Cy} {S : PS} {a k : Nat} {v : Option Nat} (h : pK S a = 14) (b : Nat) : va_up (cE cy S) a (.inl (cy.2.2.2, pN S a, .inr (.inr (.inr (.inr (va_up (pR S a) k v)))))) b = cE cy (wR S a k v) b := by
  by_cases e : b = a
  · subst e
    rw [cE_q (S := wR S b k v) h]
    simp [va_up, pI, pJ, pR, wI, wJ, wR, wIr, up2_up]
  · simp only [va_up, if_neg e]
    exact (cE_other (S := S) (S' := wR S a k v) rfl rfl rfl rfl (up2_r e)).symm
/-- the facts of a class that a field's row needs -/
def clOk (c : Nat) (C : String) (T : u_T) (N : Nat) : Prop := vwCl[c]? = some (C, T, N) ∧ nf c = N ∧ (∀ w ∈ u_ws C T N, w ∈ wsL_law) ∧ (∀ a, a < N → ∀ b, b < N → a ≠ b → (T a).2.1 ≠ (T b).2.1) ∧ c < 11
end
section
/-! G: the machine at a frame, its heap told by the pool. Glo: launch, classes, array classes, first address of the pool, addresses of the static rows and of the texts -/
abbrev Glo : Type := Launch × va_G × Cy × Nat × (Nat → Nat) × (Nat → Nat)
abbrev Kap : Type := Program × Env × Room × State × MethodId × Array Value × List Frame × Method × Code
abbrev Ctx : Type := Glo × Kap × (State → Prop) × Nat
abbrev gA (g : Glo) : Nat → Prop := fun q => g.2.2.2.1 ≤ q
abbrev gD (g : Glo) : va_G := g.2.1
abbrev gC (g : Glo) : Cy := g.2.2.1
abbrev kp (Γ : Ctx) : Program := Γ.2.1.1
abbrev ke (Γ : Ctx) : Env := Γ.2.1.2.1
abbrev kR (Γ : Ctx) : Room := Γ.2.1.2.2.1
abbrev ks (Γ : Ctx) : State := Γ.2.1.2.2.2.1
abbrev km (Γ : Ctx) : MethodId := Γ.2.1.2.2.2.2.1
abbrev ka (Γ : Ctx) : Array Value := Γ.2.1.2.2.2.2.2.1
abbrev kb (Γ : Ctx) : List Frame := Γ.2.1.2.2.2.2.2.2.1
abbrev kM (Γ : Ctx) : Method := Γ.2.1.2.2.2.2.2.2.2.1
abbrev kc (Γ : Ctx) : Code := Γ.2.1.2.2.2.2.2.2.2.2
abbrev kQ (Γ : Ctx) : State → Prop := Γ.2.2.1
abbrev kn (Γ : Ctx) : Nat := Γ.2.2.2
/-- what a heap holds beside the pool: static rows, texts, two JDK statics, and the words of nest mates -/
def atF (j : Nat) : Int32 := [1200, 1000, 50, 0, 50].getD j 0
def leF (j : Nat) : Int32 := [200, 200, 20, 0, 0].getD j 0
def grF (j : Nat) : Int32 := [3000, 3000, 200, 1, 10000].getD j 0
def EnvP (g : Glo) (U : State) (H : Heap) : Prop :=
  (∀ w ∈ nestF, va_Nw w U) ∧ (∀ w ∈ nestM, va_Nw w U) ∧
  (va_Z RX9 "AT_FIRST" "[I" (.ref (g.2.2.2.2.1 0)) (gA g) U H ∧ va_X (g.2.2.2.2.1 0) 5 atF U H ∧ g.2.2.2.2.1 0 < g.2.2.2.1) ∧
  (va_Z RX9 "LEAST" "[I" (.ref (g.2.2.2.2.1 1)) (gA g) U H ∧ va_X (g.2.2.2.2.1 1) 5 leF U H ∧ g.2.2.2.2.1 1 < g.2.2.2.1) ∧
  (va_Z RX9 "GREATEST" "[I" (.ref (g.2.2.2.2.1 2)) (gA g) U H ∧ va_X (g.2.2.2.2.1 2) 5 grF U H ∧ g.2.2.2.2.1 2 < g.2.2.2.1) ∧
  (∀ e ∈ txts, vk_R RX9 e.1 e.2 (g.2.2.2.2.2 e.1) U) ∧
  vx_Zq Bundle.tN "UNASSIGNED_STACK" Bundle.steD (gA g) U H ∧ vx_Zq Bundle.tN "SUPPRESSED_SENTINEL" Bundle.listD (gA g) U H ∧ g.1.stackTraces = false
/-- the frame's own facts -/
def Fx (Γ : Ctx) (own : String) (cc : ByteArray) (rm : Room × Nat) : Prop :=
  (kp Γ).tables.exec = Jvm.exec ∧ (kc Γ).code = cc ∧ (kc Γ).maxLocals = kn Γ ∧ (ks Γ).vm.findClass own = some (km Γ).cls ∧ (∀ w ∈ wsL_law, w.before (ka Γ) (ks Γ) = true) ∧ (kM Γ).locks = false ∧ EnvP Γ.1 (ks Γ) (ks Γ).heap ∧ va_K (gD Γ.1) vwCl (mT (gC Γ.1)) (ks Γ) ∧ Γ.1.2.2.2.1 ≤ (ks Γ).heap.size ∧ kR Γ = rm.1 ∧ kn Γ = rm.2
def G (Γ : Ctx) (S : PS) (c n pc : Nat) (L : List (Nat × Value)) (st : List Value) : Prop :=
  ∀ (H : Heap) (locs : List Loc) (ls : Array Slot), va_P (gD Γ.1) vwCl (mP (gC Γ.1) S) H → va_D (gA Γ.1) (mP (gC Γ.1) S) → va_S (gA Γ.1) (ks Γ).heap H locs → lv_has ls (kn Γ) L →
    W (kp Γ) Γ.1.1 (ke Γ) (kR Γ) (ks Γ) (km Γ) (ka Γ) (kb Γ) (kM Γ) (kc Γ) H locs c n (kQ Γ) (F0 (km Γ) pc ls st)
def Is (sh : List Nat × (Nat → Nat) × (Nat → Nat)) (a c : Nat) : Prop := a ∈ sh.1 ∧ sh.2.1 a = c
section RowsG
variable {Γ : Ctx} {own : String} {cc : ByteArray} {rm : Room × Nat} {S : PS} {c n pc : Nat} {L L' : List (Nat × Value)} {st : List Value}
theorem Fx.x (F : Fx Γ own cc rm) : (kp Γ).tables.exec = Jvm.exec := F.1
theorem Fx.b (F : Fx Γ own cc rm) : (kc Γ).code = cc := F.2.1
theorem Fx.ml (F : Fx Γ own cc rm) : (kc Γ).maxLocals = kn Γ := F.2.2.1
theorem Fx.o (F : Fx Γ own cc rm) : (ks Γ).vm.findClass own = some (km Γ).cls := F.2.2.2.1
theorem Fx.w (F : Fx Γ own cc rm) : ∀ w ∈ wsL_law, w.before (ka Γ) (ks Γ) = true := F.2.2.2.2.1
theorem Fx.lk (F : Fx Γ own cc rm) : (kM Γ).locks = false := F.2.2.2.2.2.1
theorem Fx.e (F : Fx Γ own cc rm) : EnvP Γ.1 (ks Γ) (ks Γ).heap := F.2.2.2.2.2.2.1
theorem Fx.k (F : Fx Γ own cc rm) : va_K (gD Γ.1) vwCl (mT (gC Γ.1)) (ks Γ) := F.2.2.2.2.2.2.2.1
theorem Fx.base (F : Fx Γ own cc rm) : Γ.1.2.2.2.1 ≤ (ks Γ).heap.size := F.2.2.2.2.2.2.2.2.1
theorem Fx.r (F : Fx Γ own cc rm) : kR Γ = rm.1 := F.2.2.2.2.2.2.2.2.2.1
theorem Fx.nl (F : Fx Γ own cc rm) : kn Γ = rm.2 := F.2.2.2.2.2.2.2.2.2.2
theorem Fx.fr (F : Fx Γ own cc rm) : ∀ q, (ks Γ).heap.size ≤ q → gA Γ.1 q := fun _ h => Nat.le_trans F.base h

theorem g_iload {i : Nat} {x : Int32} (F : Fx Γ own cc rm) (p9 : Nat) (hk : L[p9]? = some (i, .int x)) (d : decode cc pc = .ok (.iload i, 2)) (k9 : G Γ S c n (pc + 2) L (.int x :: st)) : G Γ S c n pc L (st) := fun H locs ls hP hD hS hl => lv_iload F.x F.b d (lv_at hl p9 hk) (k9 H locs ls hP hD hS hl)
theorem g_iload_n {k : Fin 4} {x : Int32} (F : Fx Γ own cc rm) (p9 : Nat) (hk : L[p9]? = some ((k : Nat), .int x)) (d : decode cc pc = .ok (.iload_n k, 1)) (k9 : G Γ S c n (pc + 1) L (.int x :: st)) : G Γ S c n pc L (st) := fun H locs ls hP hD hS hl => lv_iload_n F.x F.b d rfl (lv_at hl p9 hk) (k9 H locs ls hP hD hS hl)
theorem g_istore {i : Nat} {x : Int32} (F : Fx Γ own cc rm) (d : decode cc pc = .ok (.istore i, 2)) (hn : i < rm.2) (hl' : (i, Value.int x) :: L.filter (fun q => !(q.1 == i) && !(q.1 + 1 == i && q.2.category == 2)) = L') (k9 : G Γ S c n (pc + 2) L' st) : G Γ S c n pc L (.int x :: st) := fun H locs ls hP hD hS hl => lv_istore F.x F.b d hl (by rw [F.nl]; exact hn) hl' (fun ls' hl9 => k9 H locs ls' hP hD hS hl9)
theorem g_istore_n {k : Fin 4} {x : Int32} (F : Fx Γ own cc rm) (d : decode cc pc = .ok (.istore_n k, 1)) (hn : (k : Nat) < rm.2) (hl' : ((k : Nat), Value.int x) :: L.filter (fun q => !(q.1 == (k : Nat)) && !(q.1 + 1 == (k : Nat) && q.2.category == 2)) = L') (k9 : G Γ S c n (pc + 1) L' st) : G Γ S c n pc L (.int x :: st) := fun H locs ls hP hD hS hl => lv_istore_n F.x F.b d rfl hl (by rw [F.nl]; exact hn) hl' (fun ls' hl9 => k9 H locs ls' hP hD hS hl9)
theorem g_lload {i : Nat} {x : Int64} (F : Fx Γ own cc rm) (p9 : Nat) (hk : L[p9]? = some (i, .long x)) (d : decode cc pc = .ok (.lload i, 2)) (k9 : G Γ S c n (pc + 2) L (.long x :: st)) : G Γ S c n pc L (st) := fun H locs ls hP hD hS hl => lv_lload F.x F.b d (lv_at hl p9 hk) (k9 H locs ls hP hD hS hl)
theorem g_lload_n {k : Fin 4} {x : Int64} (F : Fx Γ own cc rm) (p9 : Nat) (hk : L[p9]? = some ((k : Nat), .long x)) (d : decode cc pc = .ok (.lload_n k, 1)) (k9 : G Γ S c n (pc + 1) L (.long x :: st)) : G Γ S c n pc L (st) := fun H locs ls hP hD hS hl => lv_lload_n F.x F.b d rfl (lv_at hl p9 hk) (k9 H locs ls hP hD hS hl)
theorem g_lstore {i : Nat} {x : Int64} (F : Fx Γ own cc rm) (d : decode cc pc = .ok (.lstore i, 2)) (hn : i + 1 < rm.2) (hl' : (i, Value.long x) :: L.filter (fun q => !(q.1 == i) && (!(q.1 == i + 1) && !(q.1 + 1 == i && q.2.category == 2))) = L') (k9 : G Γ S c n (pc + 2) L' st) : G Γ S c n pc L (.long x :: st) := fun H locs ls hP hD hS hl => lv_lstore F.x F.b d hl (by rw [F.nl]; exact hn) hl' (fun ls' hl9 => k9 H locs ls' hP hD hS hl9)
theorem g_lstore_n {k : Fin 4} {x : Int64} (F : Fx Γ own cc rm) (d : decode cc pc = .ok (.lstore_n k, 1)) (hn : (k : Nat) + 1 < rm.2) (hl' : ((k : Nat), Value.long x) :: L.filter (fun q => !(q.1 == (k : Nat)) && (!(q.1 == (k : Nat) + 1) && !(q.1 + 1 == (k : Nat) && q.2.category == 2))) = L') (k9 : G Γ S c n (pc + 1) L' st) : G Γ S c n pc L (.long x :: st) := fun H locs ls hP hD hS hl => lv_lstore_n F.x F.b d rfl hl (by rw [F.nl]; exact hn) hl' (fun ls' hl9 => k9 H locs ls' hP hD hS hl9)
theorem g_dload {i : Nat} {x : UInt64} (F : Fx Γ own cc rm) (p9 : Nat) (hk : L[p9]? = some (i, .double x)) (d : decode cc pc = .ok (.dload i, 2)) (k9 : G Γ S c n (pc + 2) L (.double x :: st)) : G Γ S c n pc L (st) := fun H locs ls hP hD hS hl => lv_dload F.x F.b d (lv_at hl p9 hk) (k9 H locs ls hP hD hS hl)
theorem g_dload_n {k : Fin 4} {x : UInt64} (F : Fx Γ own cc rm) (p9 : Nat) (hk : L[p9]? = some ((k : Nat), .double x)) (d : decode cc pc = .ok (.dload_n k, 1)) (k9 : G Γ S c n (pc + 1) L (.double x :: st)) : G Γ S c n pc L (st) := fun H locs ls hP hD hS hl => lv_dload_n F.x F.b d rfl (lv_at hl p9 hk) (k9 H locs ls hP hD hS hl)
theorem g_dstore {i : Nat} {x : UInt64} (F : Fx Γ own cc rm) (d : decode cc pc = .ok (.dstore i, 2)) (hn : i + 1 < rm.2) (hl' : (i, Value.double x) :: L.filter (fun q => !(q.1 == i) && (!(q.1 == i + 1) && !(q.1 + 1 == i && q.2.category == 2))) = L') (k9 : G Γ S c n (pc + 2) L' st) : G Γ S c n pc L (.double x :: st) := fun H locs ls hP hD hS hl => lv_dstore F.x F.b d hl (by rw [F.nl]; exact hn) hl' (fun ls' hl9 => k9 H locs ls' hP hD hS hl9)
theorem g_dstore_n {k : Fin 4} {x : UInt64} (F : Fx Γ own cc rm) (d : decode cc pc = .ok (.dstore_n k, 1)) (hn : (k : Nat) + 1 < rm.2) (hl' : ((k : Nat), Value.double x) :: L.filter (fun q => !(q.1 == (k : Nat)) && (!(q.1 == (k : Nat) + 1) && !(q.1 + 1 == (k : Nat) && q.2.category == 2))) = L') (k9 : G Γ S c n (pc + 1) L' st) : G Γ S c n pc L (.double x :: st) := fun H locs ls hP hD hS hl => lv_dstore_n F.x F.b d rfl hl (by rw [F.nl]; exact hn) hl' (fun ls' hl9 => k9 H locs ls' hP hD hS hl9)
theorem g_aload {i : Nat} {x : Nat} (F : Fx Γ own cc rm) (p9 : Nat) (hk : L[p9]? = some (i, .ref x)) (d : decode cc pc = .ok (.aload i, 2)) (k9 : G Γ S c n (pc + 2) L (.ref x :: st)) : G Γ S c n pc L (st) := fun H locs ls hP hD hS hl => lv_aload F.x F.b d (lv_at hl p9 hk) (k9 H locs ls hP hD hS hl)
theorem g_aload_n {k : Fin 4} {x : Nat} (F : Fx Γ own cc rm) (p9 : Nat) (hk : L[p9]? = some ((k : Nat), .ref x)) (d : decode cc pc = .ok (.aload_n k, 1)) (k9 : G Γ S c n (pc + 1) L (.ref x :: st)) : G Γ S c n pc L (st) := fun H locs ls hP hD hS hl => lv_aload_n F.x F.b d rfl (lv_at hl p9 hk) (k9 H locs ls hP hD hS hl)
theorem g_astore {i : Nat} {x : Nat} (F : Fx Γ own cc rm) (d : decode cc pc = .ok (.astore i, 2)) (hn : i < rm.2) (hl' : (i, Value.ref x) :: L.filter (fun q => !(q.1 == i) && !(q.1 + 1 == i && q.2.category == 2)) = L') (k9 : G Γ S c n (pc + 2) L' st) : G Γ S c n pc L (.ref x :: st) := fun H locs ls hP hD hS hl => lv_astore F.x F.b d hl (by rw [F.nl]; exact hn) hl' (fun ls' hl9 => k9 H locs ls' hP hD hS hl9)
theorem g_astore_n {k : Fin 4} {x : Nat} (F : Fx Γ own cc rm) (d : decode cc pc = .ok (.astore_n k, 1)) (hn : (k : Nat) < rm.2) (hl' : ((k : Nat), Value.ref x) :: L.filter (fun q => !(q.1 == (k : Nat)) && !(q.1 + 1 == (k : Nat) && q.2.category == 2)) = L') (k9 : G Γ S c n (pc + 1) L' st) : G Γ S c n pc L (.ref x :: st) := fun H locs ls hP hD hS hl => lv_astore_n F.x F.b d rfl hl (by rw [F.nl]; exact hn) hl' (fun ls' hl9 => k9 H locs ls' hP hD hS hl9)
theorem g_iconst {z : Int} {v : Int32} (F : Fx Γ own cc rm) (hv : Int32.ofInt z = v) (d : decode cc pc = .ok (.iconst z, 1)) (k9 : G Γ S c n (pc + 1) L (.int v :: st)) : G Γ S c n pc L (st) := fun H locs ls hP hD hS hl => lv_iconst F.x F.b d hv (k9 H locs ls hP hD hS hl)
theorem g_bipush {z : Int} {v : Int32} (F : Fx Γ own cc rm) (hv : (Int8.ofInt z).toInt32 = v) (d : decode cc pc = .ok (.bipush z, 2)) (k9 : G Γ S c n (pc + 2) L (.int v :: st)) : G Γ S c n pc L (st) := fun H locs ls hP hD hS hl => lv_bipush F.x F.b d hv (k9 H locs ls hP hD hS hl)
theorem g_sipush {z : Int} {v : Int32} (F : Fx Γ own cc rm) (hv : (Int16.ofInt z).toInt32 = v) (d : decode cc pc = .ok (.sipush z, 3)) (k9 : G Γ S c n (pc + 3) L (.int v :: st)) : G Γ S c n pc L (st) := fun H locs ls hP hD hS hl => lv_sipush F.x F.b d hv (k9 H locs ls hP hD hS hl)
theorem g_lconst {z : Fin 2} {v : Int64} (F : Fx Γ own cc rm) (hv : Int64.ofNat (z : Nat) = v) (d : decode cc pc = .ok (.lconst z, 1)) (k9 : G Γ S c n (pc + 1) L (.long v :: st)) : G Γ S c n pc L (st) := fun H locs ls hP hD hS hl => lv_lconst F.x F.b d hv (k9 H locs ls hP hD hS hl)
theorem g_ldc {i : Nat} {v : Int32} (F : Fx Γ own cc rm) (hw : Cond.constant own i v ∈ wsL_law) (d : decode cc pc = .ok (.ldc i, 2)) (k9 : G Γ S c n (pc + 2) L (.int v :: st)) : G Γ S c n pc L (st) := fun H locs ls hP hD hS hl => lv_ldc F.x F.b F.o (F.w _ hw) d (k9 H locs ls hP hD hS hl)
theorem g_ldcw {i : Nat} {v : Int32} (F : Fx Γ own cc rm) (hw : Cond.constant own i v ∈ wsL_law) (d : decode cc pc = .ok (.ldc_w i, 3)) (k9 : G Γ S c n (pc + 3) L (.int v :: st)) : G Γ S c n pc L (st) := fun H locs ls hP hD hS hl => lv_ldcw F.x F.b F.o (F.w _ hw) d (k9 H locs ls hP hD hS hl)
theorem g_ldc2 {i : Nat} {v : Int64} (F : Fx Γ own cc rm) (hw : Cond.constantLong own i v ∈ wsL_law) (d : decode cc pc = .ok (.ldc2_w i, 3)) (k9 : G Γ S c n (pc + 3) L (.long v :: st)) : G Γ S c n pc L (st) := fun H locs ls hP hD hS hl => lv_ldc2 F.x F.b F.o (F.w _ hw) d (k9 H locs ls hP hD hS hl)
theorem g_ldc2d {i : Nat} {v : UInt64} (F : Fx Γ own cc rm) (hw : Cond.constantDouble own i v ∈ wsL_law) (d : decode cc pc = .ok (.ldc2_w i, 3)) (k9 : G Γ S c n (pc + 3) L (.double v :: st)) : G Γ S c n pc L (st) := fun H locs ls hP hD hS hl => lv_ldc2d F.x F.b F.o (F.w _ hw) d (k9 H locs ls hP hD hS hl)
theorem g_iadd {x y : Int32} (F : Fx Γ own cc rm) (d : decode cc pc = .ok (.iadd, 1)) (k9 : G Γ S c n (pc + 1) L (.int (x + y) :: st)) : G Γ S c n pc L (.int y :: .int x :: st) := fun H locs ls hP hD hS hl => lv_iadd F.x F.b d (k9 H locs ls hP hD hS hl)
theorem g_isub {x y : Int32} (F : Fx Γ own cc rm) (d : decode cc pc = .ok (.isub, 1)) (k9 : G Γ S c n (pc + 1) L (.int (x - y) :: st)) : G Γ S c n pc L (.int y :: .int x :: st) := fun H locs ls hP hD hS hl => lv_isub F.x F.b d (k9 H locs ls hP hD hS hl)
theorem g_imul {x y : Int32} (F : Fx Γ own cc rm) (d : decode cc pc = .ok (.imul, 1)) (k9 : G Γ S c n (pc + 1) L (.int (x * y) :: st)) : G Γ S c n pc L (.int y :: .int x :: st) := fun H locs ls hP hD hS hl => lv_imul F.x F.b d (k9 H locs ls hP hD hS hl)
theorem g_iand {x y : Int32} (F : Fx Γ own cc rm) (d : decode cc pc = .ok (.iand, 1)) (k9 : G Γ S c n (pc + 1) L (.int (x &&& y) :: st)) : G Γ S c n pc L (.int y :: .int x :: st) := fun H locs ls hP hD hS hl => lv_iand F.x F.b d (k9 H locs ls hP hD hS hl)
theorem g_ior {x y : Int32} (F : Fx Γ own cc rm) (d : decode cc pc = .ok (.ior, 1)) (k9 : G Γ S c n (pc + 1) L (.int (x ||| y) :: st)) : G Γ S c n pc L (.int y :: .int x :: st) := fun H locs ls hP hD hS hl => lv_ior F.x F.b d (k9 H locs ls hP hD hS hl)
theorem g_ladd {x y : Int64} (F : Fx Γ own cc rm) (d : decode cc pc = .ok (.ladd, 1)) (k9 : G Γ S c n (pc + 1) L (.long (x + y) :: st)) : G Γ S c n pc L (.long y :: .long x :: st) := fun H locs ls hP hD hS hl => lv_ladd F.x F.b d (k9 H locs ls hP hD hS hl)
theorem g_lsub {x y : Int64} (F : Fx Γ own cc rm) (d : decode cc pc = .ok (.lsub, 1)) (k9 : G Γ S c n (pc + 1) L (.long (x - y) :: st)) : G Γ S c n pc L (.long y :: .long x :: st) := fun H locs ls hP hD hS hl => lv_lsub F.x F.b d (k9 H locs ls hP hD hS hl)
theorem g_lmul {x y : Int64} (F : Fx Γ own cc rm) (d : decode cc pc = .ok (.lmul, 1)) (k9 : G Γ S c n (pc + 1) L (.long (x * y) :: st)) : G Γ S c n pc L (.long y :: .long x :: st) := fun H locs ls hP hD hS hl => lv_lmul F.x F.b d (k9 H locs ls hP hD hS hl)
theorem g_lor {x y : Int64} (F : Fx Γ own cc rm) (d : decode cc pc = .ok (.lor, 1)) (k9 : G Γ S c n (pc + 1) L (.long (x ||| y) :: st)) : G Γ S c n pc L (.long y :: .long x :: st) := fun H locs ls hP hD hS hl => lv_lor F.x F.b d (k9 H locs ls hP hD hS hl)
theorem g_idiv {x y : Int32} (F : Fx Γ own cc rm) (d : decode cc pc = .ok (.idiv, 1)) (hne : ¬ y = 0) (k9 : G Γ S c n (pc + 1) L (.int (x / y) :: st)) : G Γ S c n pc L (.int y :: .int x :: st) := fun H locs ls hP hD hS hl => lv_idiv F.x F.b d hne (k9 H locs ls hP hD hS hl)
theorem g_irem {x y : Int32} (F : Fx Γ own cc rm) (d : decode cc pc = .ok (.irem, 1)) (hne : ¬ y = 0) (k9 : G Γ S c n (pc + 1) L (.int (x - x / y * y) :: st)) : G Γ S c n pc L (.int y :: .int x :: st) := fun H locs ls hP hD hS hl => lv_irem F.x F.b d hne (k9 H locs ls hP hD hS hl)
theorem g_ldiv {x y : Int64} (F : Fx Γ own cc rm) (d : decode cc pc = .ok (.ldiv, 1)) (hne : ¬ y = 0) (k9 : G Γ S c n (pc + 1) L (.long (x / y) :: st)) : G Γ S c n pc L (.long y :: .long x :: st) := fun H locs ls hP hD hS hl => lv_ldiv F.x F.b d hne (k9 H locs ls hP hD hS hl)
theorem g_ineg {x : Int32} (F : Fx Γ own cc rm) (d : decode cc pc = .ok (.ineg, 1)) (k9 : G Γ S c n (pc + 1) L (.int (-x) :: st)) : G Γ S c n pc L (.int x :: st) := fun H locs ls hP hD hS hl => lv_ineg F.x F.b d (k9 H locs ls hP hD hS hl)
theorem g_lneg {x : Int64} (F : Fx Γ own cc rm) (d : decode cc pc = .ok (.lneg, 1)) (k9 : G Γ S c n (pc + 1) L (.long (-x) :: st)) : G Γ S c n pc L (.long x :: st) := fun H locs ls hP hD hS hl => lv_lneg F.x F.b d (k9 H locs ls hP hD hS hl)
theorem g_i2l {x : Int32} (F : Fx Γ own cc rm) (d : decode cc pc = .ok (.i2l, 1)) (k9 : G Γ S c n (pc + 1) L (.long x.toInt64 :: st)) : G Γ S c n pc L (.int x :: st) := fun H locs ls hP hD hS hl => lv_i2l F.x F.b d rfl (k9 H locs ls hP hD hS hl)
theorem g_l2i {x : Int64} (F : Fx Γ own cc rm) (d : decode cc pc = .ok (.l2i, 1)) (k9 : G Γ S c n (pc + 1) L (.int x.toInt32 :: st)) : G Γ S c n pc L (.long x :: st) := fun H locs ls hP hD hS hl => lv_l2i F.x F.b d rfl (k9 H locs ls hP hD hS hl)
theorem g_lshl {x : Int64} {y : Int32} (F : Fx Γ own cc rm) (d : decode cc pc = .ok (.lshl, 1)) (k9 : G Γ S c n (pc + 1) L (.long (x <<< (y.toInt64 &&& 63)) :: st)) : G Γ S c n pc L (.int y :: .long x :: st) := fun H locs ls hP hD hS hl => lv_lshl F.x F.b d rfl (k9 H locs ls hP hD hS hl)
theorem g_lushr {x : Int64} {y : Int32} (F : Fx Γ own cc rm) (d : decode cc pc = .ok (.lushr, 1)) (k9 : G Γ S c n (pc + 1) L (.long (x.toUInt64 >>> (y.toInt64.toUInt64 &&& Int64.toUInt64 63)).toInt64 :: st)) : G Γ S c n pc L (.int y :: .long x :: st) := fun H locs ls hP hD hS hl => lv_lushr F.x F.b d rfl (k9 H locs ls hP hD hS hl)
theorem g_iushr {x y : Int32} (F : Fx Γ own cc rm) (d : decode cc pc = .ok (.iushr, 1)) (k9 : G Γ S c n (pc + 1) L (.int (x.toUInt32 >>> (y.toUInt32 &&& Int32.toUInt32 31)).toInt32 :: st)) : G Γ S c n pc L (.int y :: .int x :: st) := fun H locs ls hP hD hS hl => lv_iushr F.x F.b d rfl (k9 H locs ls hP hD hS hl)
theorem g_ishl {x y : Int32} (F : Fx Γ own cc rm) (d : decode cc pc = .ok (.ishl, 1)) (k9 : G Γ S c n (pc + 1) L (.int (x <<< (y &&& 31)) :: st)) : G Γ S c n pc L (.int y :: .int x :: st) := fun H locs ls hP hD hS hl => lv_ishl F.x F.b d (k9 H locs ls hP hD hS hl)
theorem g_lcmp {x y : Int64} (F : Fx Γ own cc rm) (d : decode cc pc = .ok (.lcmp, 1)) (k9 : G Γ S c n (pc + 1) L (.int (lg_cmp x y) :: st)) : G Γ S c n pc L (.long y :: .long x :: st) := fun H locs ls hP hD hS hl => W.lcmp F.x F.b d (k9 H locs ls hP hD hS hl)
theorem g_l2d {x : Int64} (F : Fx Γ own cc rm) (d : decode cc pc = .ok (.l2d, 1)) (k9 : G Γ S c n (pc + 1) L (.double (FP.l2d x) :: st)) : G Γ S c n pc L (.long x :: st) := fun H locs ls hP hD hS hl => lv_l2d F.x F.b d (k9 H locs ls hP hD hS hl)
theorem g_d2l {x : UInt64} (F : Fx Γ own cc rm) (d : decode cc pc = .ok (.d2l, 1)) (k9 : G Γ S c n (pc + 1) L (.long (FP.d2l x) :: st)) : G Γ S c n pc L (.double x :: st) := fun H locs ls hP hD hS hl => lv_d2l F.x F.b d (k9 H locs ls hP hD hS hl)
theorem g_dneg {x : UInt64} (F : Fx Γ own cc rm) (d : decode cc pc = .ok (.dneg, 1)) (k9 : G Γ S c n (pc + 1) L (.double (FP.dneg x) :: st)) : G Γ S c n pc L (.double x :: st) := fun H locs ls hP hD hS hl => lv_dneg F.x F.b d (k9 H locs ls hP hD hS hl)
theorem g_dsub {x y : UInt64} (F : Fx Γ own cc rm) (d : decode cc pc = .ok (.dsub, 1)) (hne : vf_n64 (FP.dsub x y)) (k9 : G Γ S c n (pc + 1) L (.double (FP.dsub x y) :: st)) : G Γ S c n pc L (.double y :: .double x :: st) := fun H locs ls hP hD hS hl => lv_dsub F.x F.b d hne (k9 H locs ls hP hD hS hl)
theorem g_dmul {x y : UInt64} (F : Fx Γ own cc rm) (d : decode cc pc = .ok (.dmul, 1)) (hne : vf_n64 (FP.dmul x y)) (k9 : G Γ S c n (pc + 1) L (.double (FP.dmul x y) :: st)) : G Γ S c n pc L (.double y :: .double x :: st) := fun H locs ls hP hD hS hl => lv_dmul F.x F.b d hne (k9 H locs ls hP hD hS hl)
theorem g_ddiv {x y : UInt64} (F : Fx Γ own cc rm) (d : decode cc pc = .ok (.ddiv, 1)) (hne : vf_n64 (FP.ddiv x y)) (k9 : G Γ S c n (pc + 1) L (.double (FP.ddiv x y) :: st)) : G Γ S c n pc L (.double y :: .double x :: st) := fun H locs ls hP hD hS hl => lv_ddiv F.x F.b d hne (k9 H locs ls hP hD hS hl)
theorem g_dcmp {x y : UInt64} {op : CmpOp} (F : Fx Γ own cc rm) (d : decode cc pc = .ok (.dcmp op, 1)) (k9 : G Γ S c n (pc + 1) L (.int (Op.cmpValue (FP.dcmp x y) op) :: st)) : G Γ S c n pc L (.double y :: .double x :: st) := fun H locs ls hP hD hS hl => lv_dcmp F.x F.b d (k9 H locs ls hP hD hS hl)
theorem g_dup {va : Value} (F : Fx Γ own cc rm) (d : decode cc pc = .ok (.dup, 1)) (hva : va.category = 1) (k9 : G Γ S c n (pc + 1) L (va :: va :: st)) : G Γ S c n pc L (va :: st) := fun H locs ls hP hD hS hl => lv_dup F.x F.b d hva (k9 H locs ls hP hD hS hl)
theorem g_pop {va : Value} (F : Fx Γ own cc rm) (d : decode cc pc = .ok (.pop, 1)) (hva : va.category = 1) (k9 : G Γ S c n (pc + 1) L (st)) : G Γ S c n pc L (va :: st) := fun H locs ls hP hD hS hl => lv_pop F.x F.b d hva (k9 H locs ls hP hD hS hl)
theorem g_iinc {i k : Nat} {z : Int} {x v : Int32} (F : Fx Γ own cc rm) (d : decode cc pc = .ok (.iinc i z, 3)) (hk : L[k]? = some (i, .int x)) (hv : x + Int32.ofInt z = v) (hn : i < rm.2) (hl' : (i, Value.int v) :: L.filter (fun q => !(q.1 == i) && !(q.1 + 1 == i && q.2.category == 2)) = L') (k9 : G Γ S c n (pc + 3) L' st) : G Γ S c n pc L st := fun H locs ls hP hD hS hl => lv_iinc F.x F.b d hl hk hv (by rw [F.nl]; exact hn) hl' (fun ls' hl9 => k9 H locs ls' hP hD hS hl9)
theorem g_goto {z : Int} {t : Nat} (F : Fx Γ own cc rm) (d : decode cc pc = .ok (.goto z, 3)) (ht : (pc : Int) + z = (t : Int)) (k9 : G Γ S c n t L st) : G Γ S c n pc L st := fun H locs ls hP hD hS hl => lv_goto F.x F.b d ht (k9 H locs ls hP hD hS hl)
theorem g_if_eq {x : Int32} {z : Int} {t : Nat} (F : Fx Γ own cc rm) (d : decode cc pc = .ok (.ifCond .eq z, 3)) (ht : (pc : Int) + z = (t : Int)) (kt : x = 0 → G Γ S c n t L st) (kf : ¬ x = 0 → G Γ S c n (pc + 3) L st) : G Γ S c n pc L (.int x :: st) := fun H locs ls hP hD hS hl => lv_if_eq F.x F.b d ht (fun h => kt h H locs ls hP hD hS hl) (fun h => kf h H locs ls hP hD hS hl)
theorem g_icmp_eq {x y : Int32} {z : Int} {t : Nat} (F : Fx Γ own cc rm) (d : decode cc pc = .ok (.if_icmp .eq z, 3)) (ht : (pc : Int) + z = (t : Int)) (kt : x = y → G Γ S c n t L st) (kf : ¬ x = y → G Γ S c n (pc + 3) L st) : G Γ S c n pc L (.int y :: .int x :: st) := fun H locs ls hP hD hS hl => lv_icmp_eq F.x F.b d ht (fun h => kt h H locs ls hP hD hS hl) (fun h => kf h H locs ls hP hD hS hl)
theorem g_if_ne {x : Int32} {z : Int} {t : Nat} (F : Fx Γ own cc rm) (d : decode cc pc = .ok (.ifCond .ne z, 3)) (ht : (pc : Int) + z = (t : Int)) (kt : ¬ x = 0 → G Γ S c n t L st) (kf : x = 0 → G Γ S c n (pc + 3) L st) : G Γ S c n pc L (.int x :: st) := fun H locs ls hP hD hS hl => lv_if_ne F.x F.b d ht (fun h => kt h H locs ls hP hD hS hl) (fun h => kf h H locs ls hP hD hS hl)
theorem g_icmp_ne {x y : Int32} {z : Int} {t : Nat} (F : Fx Γ own cc rm) (d : decode cc pc = .ok (.if_icmp .ne z, 3)) (ht : (pc : Int) + z = (t : Int)) (kt : ¬ x = y → G Γ S c n t L st) (kf : x = y → G Γ S c n (pc + 3) L st) : G Γ S c n pc L (.int y :: .int x :: st) := fun H locs ls hP hD hS hl => lv_icmp_ne F.x F.b d ht (fun h => kt h H locs ls hP hD hS hl) (fun h => kf h H locs ls hP hD hS hl)
theorem g_if_lt {x : Int32} {z : Int} {t : Nat} (F : Fx Γ own cc rm) (d : decode cc pc = .ok (.ifCond .lt z, 3)) (ht : (pc : Int) + z = (t : Int)) (kt : x < 0 → G Γ S c n t L st) (kf : ¬ x < 0 → G Γ S c n (pc + 3) L st) : G Γ S c n pc L (.int x :: st) := fun H locs ls hP hD hS hl => lv_if_lt F.x F.b d ht (fun h => kt h H locs ls hP hD hS hl) (fun h => kf h H locs ls hP hD hS hl)
theorem g_icmp_lt {x y : Int32} {z : Int} {t : Nat} (F : Fx Γ own cc rm) (d : decode cc pc = .ok (.if_icmp .lt z, 3)) (ht : (pc : Int) + z = (t : Int)) (kt : x < y → G Γ S c n t L st) (kf : ¬ x < y → G Γ S c n (pc + 3) L st) : G Γ S c n pc L (.int y :: .int x :: st) := fun H locs ls hP hD hS hl => lv_icmp_lt F.x F.b d ht (fun h => kt h H locs ls hP hD hS hl) (fun h => kf h H locs ls hP hD hS hl)
theorem g_if_ge {x : Int32} {z : Int} {t : Nat} (F : Fx Γ own cc rm) (d : decode cc pc = .ok (.ifCond .ge z, 3)) (ht : (pc : Int) + z = (t : Int)) (kt : 0 ≤ x → G Γ S c n t L st) (kf : ¬ 0 ≤ x → G Γ S c n (pc + 3) L st) : G Γ S c n pc L (.int x :: st) := fun H locs ls hP hD hS hl => lv_if_ge F.x F.b d ht (fun h => kt h H locs ls hP hD hS hl) (fun h => kf h H locs ls hP hD hS hl)
theorem g_icmp_ge {x y : Int32} {z : Int} {t : Nat} (F : Fx Γ own cc rm) (d : decode cc pc = .ok (.if_icmp .ge z, 3)) (ht : (pc : Int) + z = (t : Int)) (kt : y ≤ x → G Γ S c n t L st) (kf : ¬ y ≤ x → G Γ S c n (pc + 3) L st) : G Γ S c n pc L (.int y :: .int x :: st) := fun H locs ls hP hD hS hl => lv_icmp_ge F.x F.b d ht (fun h => kt h H locs ls hP hD hS hl) (fun h => kf h H locs ls hP hD hS hl)
theorem g_if_gt {x : Int32} {z : Int} {t : Nat} (F : Fx Γ own cc rm) (d : decode cc pc = .ok (.ifCond .gt z, 3)) (ht : (pc : Int) + z = (t : Int)) (kt : 0 < x → G Γ S c n t L st) (kf : ¬ 0 < x → G Γ S c n (pc + 3) L st) : G Γ S c n pc L (.int x :: st) := fun H locs ls hP hD hS hl => lv_if_gt F.x F.b d ht (fun h => kt h H locs ls hP hD hS hl) (fun h => kf h H locs ls hP hD hS hl)
theorem g_icmp_gt {x y : Int32} {z : Int} {t : Nat} (F : Fx Γ own cc rm) (d : decode cc pc = .ok (.if_icmp .gt z, 3)) (ht : (pc : Int) + z = (t : Int)) (kt : y < x → G Γ S c n t L st) (kf : ¬ y < x → G Γ S c n (pc + 3) L st) : G Γ S c n pc L (.int y :: .int x :: st) := fun H locs ls hP hD hS hl => lv_icmp_gt F.x F.b d ht (fun h => kt h H locs ls hP hD hS hl) (fun h => kf h H locs ls hP hD hS hl)
theorem g_if_le {x : Int32} {z : Int} {t : Nat} (F : Fx Γ own cc rm) (d : decode cc pc = .ok (.ifCond .le z, 3)) (ht : (pc : Int) + z = (t : Int)) (kt : x ≤ 0 → G Γ S c n t L st) (kf : ¬ x ≤ 0 → G Γ S c n (pc + 3) L st) : G Γ S c n pc L (.int x :: st) := fun H locs ls hP hD hS hl => lv_if_le F.x F.b d ht (fun h => kt h H locs ls hP hD hS hl) (fun h => kf h H locs ls hP hD hS hl)
theorem g_icmp_le {x y : Int32} {z : Int} {t : Nat} (F : Fx Γ own cc rm) (d : decode cc pc = .ok (.if_icmp .le z, 3)) (ht : (pc : Int) + z = (t : Int)) (kt : x ≤ y → G Γ S c n t L st) (kf : ¬ x ≤ y → G Γ S c n (pc + 3) L st) : G Γ S c n pc L (.int y :: .int x :: st) := fun H locs ls hP hD hS hl => lv_icmp_le F.x F.b d ht (fun h => kt h H locs ls hP hD hS hl) (fun h => kf h H locs ls hP hD hS hl)
theorem g_tin {dflt lo hi : Int} {offs : Array Int} {len : Nat} {x : Int32} {off : Int} {t : Nat} (F : Fx Γ own cc rm) (d : decode cc pc = .ok (.tableswitch dflt lo hi offs, len)) (h1 : ¬ x.toInt < lo) (h2 : ¬ hi < x.toInt) (ho : offs[(x.toInt - lo).toNat]? = some off) (ht : (pc : Int) + off = (t : Int)) (k9 : G Γ S c n t L st) : G Γ S c n pc L (.int x :: st) := fun H locs ls hP hD hS hl => lv_tableIn F.x F.b d h1 h2 ho ht (k9 H locs ls hP hD hS hl)
theorem g_tout {dflt lo hi : Int} {offs : Array Int} {len : Nat} {x : Int32} {t : Nat} (F : Fx Γ own cc rm) (d : decode cc pc = .ok (.tableswitch dflt lo hi offs, len)) (h : x.toInt < lo ∨ hi < x.toInt) (ht : (pc : Int) + dflt = (t : Int)) (k9 : G Γ S c n t L st) : G Γ S c n pc L (.int x :: st) := fun H locs ls hP hD hS hl => lv_tableOut F.x F.b d h ht (k9 H locs ls hP hD hS hl)
theorem g_lookup {dflt : Int} {ps : Array (Int × Int)} {len : Nat} {x : Int32} {off : Int} {t : Nat} (F : Fx Γ own cc rm) (d : decode cc pc = .ok (.lookupswitch dflt ps, len)) (hp : (ps.toList.zip (ps.toList.drop 1)).all (fun (a, next) => a.1 < next.1) = true) (ho : Op.lookupswitch.offset ps.toList dflt x.toInt = off) (ht : (pc : Int) + off = (t : Int)) (k9 : G Γ S c n t L st) : G Γ S c n pc L (.int x :: st) := fun H locs ls hP hD hS hl => lv_lookup F.x F.b d hp ho ht (k9 H locs ls hP hD hS hl)
theorem g_topi {x : Int32} (k9 : ∀ y : Int32, y = x → G Γ S c n pc L (.int y :: st)) : G Γ S c n pc L (.int x :: st) := k9 x rfl
theorem g_topl {x : Int64} (k9 : ∀ y : Int64, y = x → G Γ S c n pc L (.long y :: st)) : G Γ S c n pc L (.long x :: st) := k9 x rfl
theorem g_sub (ks9 : List Nat) (h : lv_pick L ks9 = L') (k9 : G Γ S c n pc L' st) : G Γ S c n pc L st := fun H locs ls hP hD hS hl => k9 H locs ls hP hD hS (lv_sub hl ks9 h)
theorem g_widen {c' n' : Nat} (h1 : c ≤ c') (h2 : n ≤ n') (k9 : G Γ S c' n' pc L st) : G Γ S c n pc L st := fun H locs ls hP hD hS hl => W.widen h1 h2 (k9 H locs ls hP hD hS hl)
/-- fields -/
theorem g_getI {C nm ds dc : String} {T : u_T} {N ci idx k a : Nat} {fin : Bool} (F : Fx Γ own cc rm) (hc : clOk ci C T N) (hk : k < N) (hT : T k = (dc, nm, ds, fin)) (hf : ft ci k = 0) (ha : Is S.1 a ci) (hlink : (Cond.fieldLink own idx dc nm ds).before (ka Γ) (ks Γ) = true) (d : decode cc pc = .ok (.getfield idx, 3)) (k9 : G Γ S c n (pc + 3) L (.int (pI S a k) :: st)) : G Γ S c n pc L (.ref a :: st) := by
  intro H locs ls hP hD hS hl
  obtain ⟨q0, hq, -⟩ := mP_at (cy := gC Γ.1) (S := S) ha.1 (cE_o ha.2 hc.2.2.2.2)
  exact va_get (v := .int (pI S a k)) F.x F.b F.w hc.2.2.1 F.o F.k hP q0 hq hc.1 k hk (ref := dc) (by rw [hT]; exact hlink) (by rw [hT]; exact fun _ h9 => h9) (by rw [cF_get (by rw [hc.2.1]; exact hk)]; simp [fv, hf]) d (k9 H locs ls hP hD hS hl)
theorem g_getJ {C nm ds dc : String} {T : u_T} {N ci idx k a : Nat} {fin : Bool} (F : Fx Γ own cc rm) (hc : clOk ci C T N) (hk : k < N) (hT : T k = (dc, nm, ds, fin)) (hf : ft ci k = 1) (ha : Is S.1 a ci) (hlink : (Cond.fieldLink own idx dc nm ds).before (ka Γ) (ks Γ) = true) (d : decode cc pc = .ok (.getfield idx, 3)) (k9 : G Γ S c n (pc + 3) L (.long (pJ S a k) :: st)) : G Γ S c n pc L (.ref a :: st) := by
  intro H locs ls hP hD hS hl
  obtain ⟨q0, hq, -⟩ := mP_at (cy := gC Γ.1) (S := S) ha.1 (cE_o ha.2 hc.2.2.2.2)
  exact va_get (v := .long (pJ S a k)) F.x F.b F.w hc.2.2.1 F.o F.k hP q0 hq hc.1 k hk (ref := dc) (by rw [hT]; exact hlink) (by rw [hT]; exact fun _ h9 => h9) (by rw [cF_get (by rw [hc.2.1]; exact hk)]; simp [fv, hf]) d (k9 H locs ls hP hD hS hl)
theorem g_getR {C nm ds dc : String} {T : u_T} {N ci idx k a b : Nat} {fin : Bool} (F : Fx Γ own cc rm) (hc : clOk ci C T N) (hk : k < N) (hT : T k = (dc, nm, ds, fin)) (hf : ft ci k = 2) (ha : Is S.1 a ci) (hr : pR S a k = some b) (hlink : (Cond.fieldLink own idx dc nm ds).before (ka Γ) (ks Γ) = true) (d : decode cc pc = .ok (.getfield idx, 3)) (k9 : G Γ S c n (pc + 3) L (.ref b :: st)) : G Γ S c n pc L (.ref a :: st) := by
  intro H locs ls hP hD hS hl
  obtain ⟨q0, hq, -⟩ := mP_at (cy := gC Γ.1) (S := S) ha.1 (cE_o ha.2 hc.2.2.2.2)
  exact va_get (v := .ref b) F.x F.b F.w hc.2.2.1 F.o F.k hP q0 hq hc.1 k hk (ref := dc) (by rw [hT]; exact hlink) (by rw [hT]; exact fun _ h9 => h9) (by rw [cF_get (by rw [hc.2.1]; exact hk)]; simp [fv, hf, hr, va_rf]) d (k9 H locs ls hP hD hS hl)

theorem g_getIN {C host nm ds dc : String} {T : u_T} {N ci idx k a : Nat} {fin : Bool} (F : Fx Γ own cc rm) (hc : clOk ci C T N) (hk : k < N) (hT : T k = (dc, nm, ds, fin)) (hf : ft ci k = 0) (ha : Is S.1 a ci) (hlink : (Cond.fieldLinkNest own idx dc nm ds host).before (ka Γ) (ks Γ) = true) (d : decode cc pc = .ok (.getfield idx, 3)) (k9 : G Γ S c n (pc + 3) L (.int (pI S a k) :: st)) : G Γ S c n pc L (.ref a :: st) := by
  intro H locs ls hP hD hS hl
  obtain ⟨q0, hq, -⟩ := mP_at (cy := gC Γ.1) (S := S) ha.1 (cE_o ha.2 hc.2.2.2.2)
  exact va_getN (host := host) (v := .int (pI S a k)) F.x F.b F.w hc.2.2.1 F.o F.k hP q0 hq hc.1 k hk (ref := dc) (by rw [hT]; exact hlink) (by rw [hT]; exact fun _ h9 => h9) (by rw [cF_get (by rw [hc.2.1]; exact hk)]; simp [fv, hf]) d (k9 H locs ls hP hD hS hl)
theorem g_getJN {C host nm ds dc : String} {T : u_T} {N ci idx k a : Nat} {fin : Bool} (F : Fx Γ own cc rm) (hc : clOk ci C T N) (hk : k < N) (hT : T k = (dc, nm, ds, fin)) (hf : ft ci k = 1) (ha : Is S.1 a ci) (hlink : (Cond.fieldLinkNest own idx dc nm ds host).before (ka Γ) (ks Γ) = true) (d : decode cc pc = .ok (.getfield idx, 3)) (k9 : G Γ S c n (pc + 3) L (.long (pJ S a k) :: st)) : G Γ S c n pc L (.ref a :: st) := by
  intro H locs ls hP hD hS hl
  obtain ⟨q0, hq, -⟩ := mP_at (cy := gC Γ.1) (S := S) ha.1 (cE_o ha.2 hc.2.2.2.2)
  exact va_getN (host := host) (v := .long (pJ S a k)) F.x F.b F.w hc.2.2.1 F.o F.k hP q0 hq hc.1 k hk (ref := dc) (by rw [hT]; exact hlink) (by rw [hT]; exact fun _ h9 => h9) (by rw [cF_get (by rw [hc.2.1]; exact hk)]; simp [fv, hf]) d (k9 H locs ls hP hD hS hl)
theorem g_getRN {C host nm ds dc : String} {T : u_T} {N ci idx k a b : Nat} {fin : Bool} (F : Fx Γ own cc rm) (hc : clOk ci C T N) (hk : k < N) (hT : T k = (dc, nm, ds, fin)) (hf : ft ci k = 2) (ha : Is S.1 a ci) (hr : pR S a k = some b) (hlink : (Cond.fieldLinkNest own idx dc nm ds host).before (ka Γ) (ks Γ) = true) (d : decode cc pc = .ok (.getfield idx, 3)) (k9 : G Γ S c n (pc + 3) L (.ref b :: st)) : G Γ S c n pc L (.ref a :: st) := by
  intro H locs ls hP hD hS hl
  obtain ⟨q0, hq, -⟩ := mP_at (cy := gC Γ.1) (S := S) ha.1 (cE_o ha.2 hc.2.2.2.2)
  exact va_getN (host := host) (v := .ref b) F.x F.b F.w hc.2.2.1 F.o F.k hP q0 hq hc.1 k hk (ref := dc) (by rw [hT]; exact hlink) (by rw [hT]; exact fun _ h9 => h9) (by rw [cF_get (by rw [hc.2.1]; exact hk)]; simp [fv, hf, hr, va_rf]) d (k9 H locs ls hP hD hS hl)

theorem g_putI {C nm ds dc : String} {T : u_T} {ty0 : Nat → FieldType} {N ci idx k a : Nat} {ty : FieldType} {v : Int32} (F : Fx Γ own cc rm) (hc : clOk ci C T N) (hty : ∀ k, k < N → parseFieldDescriptor (T k).2.2.1 = some (ty0 k)) (hk : k < N) (hT : T k = (dc, nm, ds, false)) (hf : ft ci k = 0) (hd : parseFieldDescriptor ds = some ty) (hn : narrow ty (.int v) = .int v) (hfit : fits ty (.int v) = true) (ha : Is S.1 a ci) (hlink : (Cond.fieldLink own idx dc nm ds).before (ka Γ) (ks Γ) = true) (d : decode cc pc = .ok (.putfield idx, 3)) (k9 : G Γ (wI S a k v) c n (pc + 3) L st) : G Γ S c n pc L (.int v :: .ref a :: st) := by
  intro H locs ls hP hD hS hl
  obtain ⟨q0, hq, hq2⟩ := mP_at (cy := gC Γ.1) (S := S) ha.1 (cE_o ha.2 hc.2.2.2.2)
  refine va_put (v := .int v) (ty := ty) F.x F.b F.w hc.2.2.1 ty0 hty hc.2.2.2.1 F.o F.k hP hD hS q0 hq hc.1 k hk (ref := dc) (by rw [hT]; exact hlink) (by rw [hT]; exact fun _ h9 => h9) (by rw [hT]) (by rw [hT]; exact hd) hn hfit (by rw [cF_len, hc.2.1]; exact hk) d (fun H1 locs1 hP1 hD1 hS1 => ?_)
  have e := mP_put (S' := wI S a k v) (e := .inr (ci, (cF ci S a).set k (.int v))) hD ha.1 hq2 rfl (fun b => upE_I ha.2 hc.2.2.2.2 (by rw [hc.2.1]; exact hk) hf b)
  rw [e] at hP1 hD1
  exact k9 H1 locs1 ls hP1 hD1 hS1 hl
theorem g_putIF {C nm ds dc : String} {T : u_T} {ty0 : Nat → FieldType} {N ci idx k a : Nat} {ty : FieldType} {v : Int32} (F : Fx Γ own cc rm) (hc : clOk ci C T N) (hty : ∀ k, k < N → parseFieldDescriptor (T k).2.2.1 = some (ty0 k)) (hk : k < N) (hT : T k = (dc, nm, ds, true)) (hf : ft ci k = 0) (hd : parseFieldDescriptor ds = some ty) (hn : narrow ty (.int v) = .int v) (hfit : fits ty (.int v) = true) (ha : Is S.1 a ci) (hlink : (Cond.fieldLink own idx dc nm ds).before (ka Γ) (ks Γ) = true) (hin : (kM Γ).name = "<init>") (hdc : dc = own) (d : decode cc pc = .ok (.putfield idx, 3)) (k9 : G Γ (wI S a k v) c n (pc + 3) L st) : G Γ S c n pc L (.int v :: .ref a :: st) := by
  intro H locs ls hP hD hS hl
  obtain ⟨q0, hq, hq2⟩ := mP_at (cy := gC Γ.1) (S := S) ha.1 (cE_o ha.2 hc.2.2.2.2)
  refine va_putF (v := .int v) (ty := ty) F.x F.b F.w hc.2.2.1 ty0 hty hc.2.2.2.1 F.o F.k hP hD hS q0 hq hc.1 k hk (ref := dc) (by rw [hT]; exact hlink) (by rw [hT]; exact fun _ h9 => h9) (by rw [hT]) hin (by rw [hT]; exact hdc) (by rw [hT]; exact hd) hn hfit (by rw [cF_len, hc.2.1]; exact hk) d (fun H1 locs1 hP1 hD1 hS1 => ?_)
  have e := mP_put (S' := wI S a k v) (e := .inr (ci, (cF ci S a).set k (.int v))) hD ha.1 hq2 rfl (fun b => upE_I ha.2 hc.2.2.2.2 (by rw [hc.2.1]; exact hk) hf b)
  rw [e] at hP1 hD1
  exact k9 H1 locs1 ls hP1 hD1 hS1 hl
theorem g_putJ {C nm ds dc : String} {T : u_T} {ty0 : Nat → FieldType} {N ci idx k a : Nat} {ty : FieldType} {v : Int64} (F : Fx Γ own cc rm) (hc : clOk ci C T N) (hty : ∀ k, k < N → parseFieldDescriptor (T k).2.2.1 = some (ty0 k)) (hk : k < N) (hT : T k = (dc, nm, ds, false)) (hf : ft ci k = 1) (hd : parseFieldDescriptor ds = some ty) (hn : narrow ty (.long v) = .long v) (hfit : fits ty (.long v) = true) (ha : Is S.1 a ci) (hlink : (Cond.fieldLink own idx dc nm ds).before (ka Γ) (ks Γ) = true) (d : decode cc pc = .ok (.putfield idx, 3)) (k9 : G Γ (wJ S a k v) c n (pc + 3) L st) : G Γ S c n pc L (.long v :: .ref a :: st) := by
  intro H locs ls hP hD hS hl
  obtain ⟨q0, hq, hq2⟩ := mP_at (cy := gC Γ.1) (S := S) ha.1 (cE_o ha.2 hc.2.2.2.2)
  refine va_put (v := .long v) (ty := ty) F.x F.b F.w hc.2.2.1 ty0 hty hc.2.2.2.1 F.o F.k hP hD hS q0 hq hc.1 k hk (ref := dc) (by rw [hT]; exact hlink) (by rw [hT]; exact fun _ h9 => h9) (by rw [hT]) (by rw [hT]; exact hd) hn hfit (by rw [cF_len, hc.2.1]; exact hk) d (fun H1 locs1 hP1 hD1 hS1 => ?_)
  have e := mP_put (S' := wJ S a k v) (e := .inr (ci, (cF ci S a).set k (.long v))) hD ha.1 hq2 rfl (fun b => upE_J ha.2 hc.2.2.2.2 (by rw [hc.2.1]; exact hk) hf b)
  rw [e] at hP1 hD1
  exact k9 H1 locs1 ls hP1 hD1 hS1 hl
theorem g_putJF {C nm ds dc : String} {T : u_T} {ty0 : Nat → FieldType} {N ci idx k a : Nat} {ty : FieldType} {v : Int64} (F : Fx Γ own cc rm) (hc : clOk ci C T N) (hty : ∀ k, k < N → parseFieldDescriptor (T k).2.2.1 = some (ty0 k)) (hk : k < N) (hT : T k = (dc, nm, ds, true)) (hf : ft ci k = 1) (hd : parseFieldDescriptor ds = some ty) (hn : narrow ty (.long v) = .long v) (hfit : fits ty (.long v) = true) (ha : Is S.1 a ci) (hlink : (Cond.fieldLink own idx dc nm ds).before (ka Γ) (ks Γ) = true) (hin : (kM Γ).name = "<init>") (hdc : dc = own) (d : decode cc pc = .ok (.putfield idx, 3)) (k9 : G Γ (wJ S a k v) c n (pc + 3) L st) : G Γ S c n pc L (.long v :: .ref a :: st) := by
  intro H locs ls hP hD hS hl
  obtain ⟨q0, hq, hq2⟩ := mP_at (cy := gC Γ.1) (S := S) ha.1 (cE_o ha.2 hc.2.2.2.2)
  refine va_putF (v := .long v) (ty := ty) F.x F.b F.w hc.2.2.1 ty0 hty hc.2.2.2.1 F.o F.k hP hD hS q0 hq hc.1 k hk (ref := dc) (by rw [hT]; exact hlink) (by rw [hT]; exact fun _ h9 => h9) (by rw [hT]) hin (by rw [hT]; exact hdc) (by rw [hT]; exact hd) hn hfit (by rw [cF_len, hc.2.1]; exact hk) d (fun H1 locs1 hP1 hD1 hS1 => ?_)
  have e := mP_put (S' := wJ S a k v) (e := .inr (ci, (cF ci S a).set k (.long v))) hD ha.1 hq2 rfl (fun b => upE_J ha.2 hc.2.2.2.2 (by rw [hc.2.1]; exact hk) hf b)
  rw [e] at hP1 hD1
  exact k9 H1 locs1 ls hP1 hD1 hS1 hl
theorem g_putR {C nm ds dc : String} {T : u_T} {ty0 : Nat → FieldType} {N ci idx k a : Nat} {ty : FieldType} {v : Nat} (F : Fx Γ own cc rm) (hc : clOk ci C T N) (hty : ∀ k, k < N → parseFieldDescriptor (T k).2.2.1 = some (ty0 k)) (hk : k < N) (hT : T k = (dc, nm, ds, false)) (hf : ft ci k = 2) (hd : parseFieldDescriptor ds = some ty) (hn : narrow ty (.ref v) = .ref v) (hfit : fits ty (.ref v) = true) (ha : Is S.1 a ci) (hlink : (Cond.fieldLink own idx dc nm ds).before (ka Γ) (ks Γ) = true) (d : decode cc pc = .ok (.putfield idx, 3)) (k9 : G Γ (wR S a k (some v)) c n (pc + 3) L st) : G Γ S c n pc L (.ref v :: .ref a :: st) := by
  intro H locs ls hP hD hS hl
  obtain ⟨q0, hq, hq2⟩ := mP_at (cy := gC Γ.1) (S := S) ha.1 (cE_o ha.2 hc.2.2.2.2)
  refine va_put (v := .ref v) (ty := ty) F.x F.b F.w hc.2.2.1 ty0 hty hc.2.2.2.1 F.o F.k hP hD hS q0 hq hc.1 k hk (ref := dc) (by rw [hT]; exact hlink) (by rw [hT]; exact fun _ h9 => h9) (by rw [hT]) (by rw [hT]; exact hd) hn hfit (by rw [cF_len, hc.2.1]; exact hk) d (fun H1 locs1 hP1 hD1 hS1 => ?_)
  have e := mP_put (S' := wR S a k (some v)) (e := .inr (ci, (cF ci S a).set k (.ref v))) hD ha.1 hq2 rfl (fun b => (show va_up (cE (gC Γ.1) S) a (.inr (ci, (cF ci S a).set k (va_rf (some v)))) b = _ from upE_R ha.2 hc.2.2.2.2 (by rw [hc.2.1]; exact hk) hf b))
  rw [e] at hP1 hD1
  exact k9 H1 locs1 ls hP1 hD1 hS1 hl
theorem g_putRF {C nm ds dc : String} {T : u_T} {ty0 : Nat → FieldType} {N ci idx k a : Nat} {ty : FieldType} {v : Nat} (F : Fx Γ own cc rm) (hc : clOk ci C T N) (hty : ∀ k, k < N → parseFieldDescriptor (T k).2.2.1 = some (ty0 k)) (hk : k < N) (hT : T k = (dc, nm, ds, true)) (hf : ft ci k = 2) (hd : parseFieldDescriptor ds = some ty) (hn : narrow ty (.ref v) = .ref v) (hfit : fits ty (.ref v) = true) (ha : Is S.1 a ci) (hlink : (Cond.fieldLink own idx dc nm ds).before (ka Γ) (ks Γ) = true) (hin : (kM Γ).name = "<init>") (hdc : dc = own) (d : decode cc pc = .ok (.putfield idx, 3)) (k9 : G Γ (wR S a k (some v)) c n (pc + 3) L st) : G Γ S c n pc L (.ref v :: .ref a :: st) := by
  intro H locs ls hP hD hS hl
  obtain ⟨q0, hq, hq2⟩ := mP_at (cy := gC Γ.1) (S := S) ha.1 (cE_o ha.2 hc.2.2.2.2)
  refine va_putF (v := .ref v) (ty := ty) F.x F.b F.w hc.2.2.1 ty0 hty hc.2.2.2.1 F.o F.k hP hD hS q0 hq hc.1 k hk (ref := dc) (by rw [hT]; exact hlink) (by rw [hT]; exact fun _ h9 => h9) (by rw [hT]) hin (by rw [hT]; exact hdc) (by rw [hT]; exact hd) hn hfit (by rw [cF_len, hc.2.1]; exact hk) d (fun H1 locs1 hP1 hD1 hS1 => ?_)
  have e := mP_put (S' := wR S a k (some v)) (e := .inr (ci, (cF ci S a).set k (.ref v))) hD ha.1 hq2 rfl (fun b => (show va_up (cE (gC Γ.1) S) a (.inr (ci, (cF ci S a).set k (va_rf (some v)))) b = _ from upE_R ha.2 hc.2.2.2.2 (by rw [hc.2.1]; exact hk) hf b))
  rw [e] at hP1 hD1
  exact k9 H1 locs1 ls hP1 hD1 hS1 hl

theorem g_putIN {C host nm ds dc : String} {T : u_T} {ty0 : Nat → FieldType} {N ci idx k a : Nat} {ty : FieldType} {v : Int32} (F : Fx Γ own cc rm) (hc : clOk ci C T N) (hty : ∀ k, k < N → parseFieldDescriptor (T k).2.2.1 = some (ty0 k)) (hk : k < N) (hT : T k = (dc, nm, ds, false)) (hf : ft ci k = 0) (hd : parseFieldDescriptor ds = some ty) (hn : narrow ty (.int v) = .int v) (hfit : fits ty (.int v) = true) (ha : Is S.1 a ci) (hlink : (Cond.fieldLinkNest own idx dc nm ds host).before (ka Γ) (ks Γ) = true) (d : decode cc pc = .ok (.putfield idx, 3)) (k9 : G Γ (wI S a k v) c n (pc + 3) L st) : G Γ S c n pc L (.int v :: .ref a :: st) := by
  intro H locs ls hP hD hS hl
  obtain ⟨q0, hq, hq2⟩ := mP_at (cy := gC Γ.1) (S := S) ha.1 (cE_o ha.2 hc.2.2.2.2)
  refine va_putN (host := host) (v := .int v) (ty := ty) F.x F.b F.w hc.2.2.1 ty0 hty hc.2.2.2.1 F.o F.k hP hD hS q0 hq hc.1 k hk (ref := dc) (by rw [hT]; exact hlink) (by rw [hT]; exact fun _ h9 => h9) (by rw [hT]) (by rw [hT]; exact hd) hn hfit (by rw [cF_len, hc.2.1]; exact hk) d (fun H1 locs1 hP1 hD1 hS1 => ?_)
  have e := mP_put (S' := wI S a k v) (e := .inr (ci, (cF ci S a).set k (.int v))) hD ha.1 hq2 rfl (fun b => upE_I ha.2 hc.2.2.2.2 (by rw [hc.2.1]; exact hk) hf b)
  rw [e] at hP1 hD1
  exact k9 H1 locs1 ls hP1 hD1 hS1 hl
theorem g_putJN {C host nm ds dc : String} {T : u_T} {ty0 : Nat → FieldType} {N ci idx k a : Nat} {ty : FieldType} {v : Int64} (F : Fx Γ own cc rm) (hc : clOk ci C T N) (hty : ∀ k, k < N → parseFieldDescriptor (T k).2.2.1 = some (ty0 k)) (hk : k < N) (hT : T k = (dc, nm, ds, false)) (hf : ft ci k = 1) (hd : parseFieldDescriptor ds = some ty) (hn : narrow ty (.long v) = .long v) (hfit : fits ty (.long v) = true) (ha : Is S.1 a ci) (hlink : (Cond.fieldLinkNest own idx dc nm ds host).before (ka Γ) (ks Γ) = true) (d : decode cc pc = .ok (.putfield idx, 3)) (k9 : G Γ (wJ S a k v) c n (pc + 3) L st) : G Γ S c n pc L (.long v :: .ref a :: st) := by
  intro H locs ls hP hD hS hl
  obtain ⟨q0, hq, hq2⟩ := mP_at (cy := gC Γ.1) (S := S) ha.1 (cE_o ha.2 hc.2.2.2.2)
  refine va_putN (host := host) (v := .long v) (ty := ty) F.x F.b F.w hc.2.2.1 ty0 hty hc.2.2.2.1 F.o F.k hP hD hS q0 hq hc.1 k hk (ref := dc) (by rw [hT]; exact hlink) (by rw [hT]; exact fun _ h9 => h9) (by rw [hT]) (by rw [hT]; exact hd) hn hfit (by rw [cF_len, hc.2.1]; exact hk) d (fun H1 locs1 hP1 hD1 hS1 => ?_)
  have e := mP_put (S' := wJ S a k v) (e := .inr (ci, (cF ci S a).set k (.long v))) hD ha.1 hq2 rfl (fun b => upE_J ha.2 hc.2.2.2.2 (by rw [hc.2.1]; exact hk) hf b)
  rw [e] at hP1 hD1
  exact k9 H1 locs1 ls hP1 hD1 hS1 hl
theorem g_putRN {C host nm ds dc : String} {T : u_T} {ty0 : Nat → FieldType} {N ci idx k a : Nat} {ty : FieldType} {v : Nat} (F : Fx Γ own cc rm) (hc : clOk ci C T N) (hty : ∀ k, k < N → parseFieldDescriptor (T k).2.2.1 = some (ty0 k)) (hk : k < N) (hT : T k = (dc, nm, ds, false)) (hf : ft ci k = 2) (hd : parseFieldDescriptor ds = some ty) (hn : narrow ty (.ref v) = .ref v) (hfit : fits ty (.ref v) = true) (ha : Is S.1 a ci) (hlink : (Cond.fieldLinkNest own idx dc nm ds host).before (ka Γ) (ks Γ) = true) (d : decode cc pc = .ok (.putfield idx, 3)) (k9 : G Γ (wR S a k (some v)) c n (pc + 3) L st) : G Γ S c n pc L (.ref v :: .ref a :: st) := by
  intro H locs ls hP hD hS hl
  obtain ⟨q0, hq, hq2⟩ := mP_at (cy := gC Γ.1) (S := S) ha.1 (cE_o ha.2 hc.2.2.2.2)
  refine va_putN (host := host) (v := .ref v) (ty := ty) F.x F.b F.w hc.2.2.1 ty0 hty hc.2.2.2.1 F.o F.k hP hD hS q0 hq hc.1 k hk (ref := dc) (by rw [hT]; exact hlink) (by rw [hT]; exact fun _ h9 => h9) (by rw [hT]) (by rw [hT]; exact hd) hn hfit (by rw [cF_len, hc.2.1]; exact hk) d (fun H1 locs1 hP1 hD1 hS1 => ?_)
  have e := mP_put (S' := wR S a k (some v)) (e := .inr (ci, (cF ci S a).set k (.ref v))) hD ha.1 hq2 rfl (fun b => (show va_up (cE (gC Γ.1) S) a (.inr (ci, (cF ci S a).set k (va_rf (some v)))) b = _ from upE_R ha.2 hc.2.2.2.2 (by rw [hc.2.1]; exact hk) hf b))
  rw [e] at hP1 hD1
  exact k9 H1 locs1 ls hP1 hD1 hS1 hl

end RowsG
end
section
section RowsH
variable {Γ : Ctx} {own : String} {cc : ByteArray} {rm : Room × Nat} {S : PS} {c n pc : Nat} {L L' : List (Nat × Value)} {st : List Value}
/-- rows of the pool -/
theorem g_iald {a j : Nat} {i : Int32} (F : Fx Γ own cc rm) (ha : Is S.1 a 11) (hi : i = nI j) (hj : j < S.1.2.2 a) (hN : S.1.2.2 a < 2 ^ 31) (d : decode cc pc = .ok (.iaload, 1)) (k9 : G Γ S c n (pc + 1) L (.int (pI S a j) :: st)) : G Γ S c n pc L (.int i :: .ref a :: st) := by
  intro H locs ls hP hD hS hl
  subst hi
  obtain ⟨q0, hq, -⟩ := mP_at (cy := gC Γ.1) (S := S) ha.1 (cE_i ha.2)
  have k8 := k9 H locs ls hP hD hS hl
  have e : pI S a j = pI S a (nI j).toNatClampNeg := by rw [nI_clamp (by omega)]
  rw [e] at k8
  exact va_iald F.x F.b F.k hP q0 0 hq rfl (vp_in_nI hj hN) d k8
theorem g_lald {a j : Nat} {i : Int32} (F : Fx Γ own cc rm) (ha : Is S.1 a 12) (hi : i = nI j) (hj : j < S.1.2.2 a) (hN : S.1.2.2 a < 2 ^ 31) (d : decode cc pc = .ok (.laload, 1)) (k9 : G Γ S c n (pc + 1) L (.long (pJ S a j) :: st)) : G Γ S c n pc L (.int i :: .ref a :: st) := by
  intro H locs ls hP hD hS hl
  subst hi
  obtain ⟨q0, hq, -⟩ := mP_at (cy := gC Γ.1) (S := S) ha.1 (cE_j ha.2)
  have k8 := k9 H locs ls hP hD hS hl
  have e : pJ S a j = pJ S a (nI j).toNatClampNeg := by rw [nI_clamp (by omega)]
  rw [e] at k8
  exact va_lald F.x F.b F.k hP q0 1 hq rfl (vp_in_nI hj hN) d k8
theorem g_zald {a j : Nat} {i : Int32} (F : Fx Γ own cc rm) (ha : Is S.1 a 13) (hi : i = nI j) (hj : j < S.1.2.2 a) (hN : S.1.2.2 a < 2 ^ 31) (d : decode cc pc = .ok (.baload, 1)) (k9 : G Γ S c n (pc + 1) L (.int (pI S a j) :: st)) : G Γ S c n pc L (.int i :: .ref a :: st) := by
  intro H locs ls hP hD hS hl
  subst hi
  obtain ⟨q0, hq, -⟩ := mP_at (cy := gC Γ.1) (S := S) ha.1 (cE_z ha.2)
  have k8 := k9 H locs ls hP hD hS hl
  have e : pI S a j = pI S a (nI j).toNatClampNeg := by rw [nI_clamp (by omega)]
  rw [e] at k8
  exact va_zald F.x F.b F.k hP q0 2 hq rfl (vp_in_nI hj hN) d k8
theorem g_aald {a j b : Nat} {i : Int32} (F : Fx Γ own cc rm) (ha : Is S.1 a 14) (hi : i = nI j) (hj : j < S.1.2.2 a) (hN : S.1.2.2 a < 2 ^ 31) (hr : pR S a j = some b) (d : decode cc pc = .ok (.aaload, 1)) (k9 : G Γ S c n (pc + 1) L (.ref b :: st)) : G Γ S c n pc L (.int i :: .ref a :: st) := by
  intro H locs ls hP hD hS hl
  subst hi
  obtain ⟨q0, hq, -⟩ := mP_at (cy := gC Γ.1) (S := S) ha.1 (cE_q ha.2)
  have k8 := k9 H locs ls hP hD hS hl
  have e : Value.ref b = va_rf (pR S a (nI j).toNatClampNeg) := by rw [nI_clamp (by omega), hr]; rfl
  rw [e] at k8
  exact va_aldq F.x F.b F.k hP q0 3 hq rfl (vp_in_nI hj hN) d k8
theorem g_iast {a j : Nat} {i x : Int32} (F : Fx Γ own cc rm) (ha : Is S.1 a 11) (hi : i = nI j) (hj : j < S.1.2.2 a) (hN : S.1.2.2 a < 2 ^ 31) (d : decode cc pc = .ok (.iastore, 1)) (k9 : G Γ (wI S a j x) c n (pc + 1) L st) : G Γ S c n pc L (.int x :: .int i :: .ref a :: st) := by
  intro H locs ls hP hD hS hl
  subst hi
  obtain ⟨q0, hq, hq2⟩ := mP_at (cy := gC Γ.1) (S := S) ha.1 (cE_i ha.2)
  refine va_iast F.x F.b F.k hP hD hS q0 0 hq rfl (vp_in_nI hj hN) d (fun H1 locs1 hP1 hD1 hS1 => ?_)
  rw [nI_clamp (by omega)] at hP1 hD1
  have e := mP_put (S' := wI S a j x) (e := .inl ((gC Γ.1).1, pN S a, .inl (upd (pI S a) j x))) hD ha.1 hq2 rfl (fun b => upE_i ha.2 b)
  rw [e] at hP1 hD1
  exact k9 H1 locs1 ls hP1 hD1 hS1 hl
theorem g_last {a j : Nat} {i : Int32} {x : Int64} (F : Fx Γ own cc rm) (ha : Is S.1 a 12) (hi : i = nI j) (hj : j < S.1.2.2 a) (hN : S.1.2.2 a < 2 ^ 31) (d : decode cc pc = .ok (.lastore, 1)) (k9 : G Γ (wJ S a j x) c n (pc + 1) L st) : G Γ S c n pc L (.long x :: .int i :: .ref a :: st) := by
  intro H locs ls hP hD hS hl
  subst hi
  obtain ⟨q0, hq, hq2⟩ := mP_at (cy := gC Γ.1) (S := S) ha.1 (cE_j ha.2)
  refine va_last F.x F.b F.k hP hD hS q0 1 hq rfl (vp_in_nI hj hN) d (fun H1 locs1 hP1 hD1 hS1 => ?_)
  rw [nI_clamp (by omega)] at hP1 hD1
  have e := mP_put (S' := wJ S a j x) (e := .inl ((gC Γ.1).2.1, pN S a, .inr (.inl (vp_updL (pJ S a) j x)))) hD ha.1 hq2 rfl (fun b => upE_j ha.2 b)
  rw [e] at hP1 hD1
  exact k9 H1 locs1 ls hP1 hD1 hS1 hl
theorem g_zast {a j : Nat} {i x : Int32} (F : Fx Γ own cc rm) (ha : Is S.1 a 13) (hi : i = nI j) (hj : j < S.1.2.2 a) (hN : S.1.2.2 a < 2 ^ 31) (hx : vp_nar .boolean x = x) (d : decode cc pc = .ok (.bastore, 1)) (k9 : G Γ (wI S a j x) c n (pc + 1) L st) : G Γ S c n pc L (.int x :: .int i :: .ref a :: st) := by
  intro H locs ls hP hD hS hl
  subst hi
  obtain ⟨q0, hq, hq2⟩ := mP_at (cy := gC Γ.1) (S := S) ha.1 (cE_z ha.2)
  refine va_zast F.x F.b F.k hP hD hS q0 2 hq rfl (vp_in_nI hj hN) d (fun H1 locs1 hP1 hD1 hS1 => ?_)
  rw [nI_clamp (by omega), hx] at hP1 hD1
  have e := mP_put (S' := wI S a j x) (e := .inl ((gC Γ.1).2.2.1, pN S a, .inl (upd (pI S a) j x))) hD ha.1 hq2 rfl (fun b => upE_z ha.2 b)
  rw [e] at hP1 hD1
  exact k9 H1 locs1 ls hP1 hD1 hS1 hl
theorem g_aast {a j v : Nat} {i : Int32} (F : Fx Γ own cc rm) (ha : Is S.1 a 14) (hv : Is S.1 v 6) (hi : i = nI j) (hj : j < S.1.2.2 a) (hN : S.1.2.2 a < 2 ^ 31) (d : decode cc pc = .ok (.aastore, 1)) (k9 : G Γ (wR S a j (some v)) c n (pc + 1) L st) : G Γ S c n pc L (.ref v :: .int i :: .ref a :: st) := by
  intro H locs ls hP hD hS hl
  subst hi
  obtain ⟨q0, hq, hq2⟩ := mP_at (cy := gC Γ.1) (S := S) ha.1 (cE_q ha.2)
  obtain ⟨q1, hv1, -⟩ := mP_at (cy := gC Γ.1) (S := S) hv.1 (cE_o hv.2 (by decide))
  refine va_astq F.x F.b F.k hP hD hS q0 3 q1 6 (r := (RX6, TX6, 6)) hq rfl hv1 rfl (vp_in_nI hj hN) d (fun H1 locs1 hP1 hD1 hS1 => ?_)
  rw [nI_clamp (by omega)] at hP1 hD1
  have e := mP_put (S' := wR S a j (some v)) (e := .inl ((gC Γ.1).2.2.2, pN S a, .inr (.inr (.inr (.inr (va_up (pR S a) j (some v))))))) hD ha.1 hq2 rfl (fun b => upE_q ha.2 b)
  rw [e] at hP1 hD1
  exact k9 H1 locs1 ls hP1 hD1 hS1 hl
/-- a new cell: the pool grows by an address that was not in it -/
def aN (S : PS) (q kd ln : Nat) : PS := ((S.1.1 ++ [q], va_up S.1.2.1 q kd, va_up S.1.2.2 q ln), upr S.2.1 q (fun _ => none), upr S.2.2.1 q (fun _ => 0), upr S.2.2.2 q (fun _ => 0))
theorem aN_K {S : PS} {q kd ln : Nat} : pK (aN S q kd ln) q = kd := by simp [pK, aN, va_up]
theorem aN_N {S : PS} {q kd ln : Nat} : pN (aN S q kd ln) q = ln := by simp [pN, aN, va_up]
theorem aN_I {S : PS} {q kd ln : Nat} : pI (aN S q kd ln) q = fun _ => 0 := by simp [pI, aN, upr]
theorem aN_J {S : PS} {q kd ln : Nat} : pJ (aN S q kd ln) q = fun _ => 0 := by simp [pJ, aN, upr]
theorem aN_R {S : PS} {q kd ln : Nat} : pR (aN S q kd ln) q = fun _ => none := by simp [pR, aN, upr]
theorem aN_e {cy : Cy} {S : PS} {q kd ln : Nat} {e : va_E} (he : cE cy (aN S q kd ln) q = e) (b : Nat) : va_up (cE cy S) q e b = cE cy (aN S q kd ln) b := by
  by_cases h : b = q
  · subst h
    simp [va_up, he]
  · simp only [va_up, if_neg h]
    exact (cE_other (S := S) (S' := aN S q kd ln) (by simp [aN, pK, va_up, h]) (by simp [aN, pN, va_up, h]) (by simp [aN, pI, upr, h]) (by simp [aN, pJ, upr, h]) (by simp [aN, pR, upr, h])).symm
theorem aN_new {cy : Cy} {S : PS} {A : Nat → Prop} {q : Nat} {e : va_E} (hD : va_D A (mP cy S ++ [(q, e)])) : q ∉ pL S := by
  intro h
  obtain ⟨k, hk, -⟩ := mP_at (cy := cy) (S := S) h rfl
  have hl := (List.getElem?_eq_some_iff.mp hk).1
  have h1 : (mP cy S ++ [(q, e)])[k]? = some (q, cE cy S q) := by rw [List.getElem?_append_left hl]; exact hk
  have h2 : (mP cy S ++ [(q, e)])[(mP cy S).length]? = some (q, e) := by simp
  have := hD.1 _ _ _ _ h1 h2 rfl
  omega
theorem aN_push {cy : Cy} {S : PS} {A : Nat → Prop} {q kd ln : Nat} {e : va_E} (hD : va_D A (mP cy S ++ [(q, e)])) (he : cE cy (aN S q kd ln) q = e) : mP cy S ++ [(q, e)] = mP cy (aN S q kd ln) := by
  have h1 := va_pl_push (f := cE cy S) (e := e) (aN_new hD)
  show va_pl (pL S) (cE cy S) ++ [(q, e)] = va_pl (pL S ++ [q]) (cE cy (aN S q kd ln))
  rw [h1]
  exact va_pl_congr (aN_e he)
theorem Is_aN {S : PS} {a k q kd ln : Nat} (h : Is S.1 a k) (hq : q ∉ pL S) : Is (aN S q kd ln).1 a k := by
  refine ⟨List.mem_append_left _ h.1, ?_⟩
  have : a ≠ q := fun e => hq (e ▸ h.1)
  show va_up S.1.2.1 q kd a = k
  simp [va_up, this, h.2]
theorem Is_new {S : PS} {q kd ln : Nat} : Is (aN S q kd ln).1 q kd := ⟨List.mem_append_right _ (List.mem_singleton.mpr rfl), aN_K⟩
theorem ra_eq {U : State} {a b : ClassId} {ty : FieldType} (hty : ∀ C, ty ≠ .object C) (h1 : va_RA U a ty) (h2 : va_RA U b ty) : a = b := by
  cases ty with
  | object C => exact absurd rfl (hty C)
  | _ => exact Option.some.inj (h1.symm.trans h2)
theorem ra_eqO {U : State} {a b : ClassId} {C : String} (h1 : va_RA U a (.object C)) (h2 : va_RA U b (.object C)) : a = b := by
  obtain ⟨_, _, -, -, -, h3⟩ := h1
  obtain ⟨_, _, -, -, -, h4⟩ := h2
  exact Option.some.inj (h3.symm.trans h4)
theorem g_newI {x : Int32} {N : Nat} (F : Fx Γ own cc rm) (hw : Cond.arrayClass .int ∈ wsL_law) (hx : x = nI N) (hN : N < 100000) (hcc : c + 1 ≤ rm.1.cells ∧ n + N ≤ rm.1.slots) (d : decode cc pc = .ok (.newarray .int, 2)) (k9 : ∀ q, q ∉ pL S → G Γ (aN S q 11 N) (c + 1) (n + N) (pc + 2) L (.ref q :: st)) : G Γ S c n pc L (.int x :: st) := by
  intro H locs ls hP hD hS hl
  subst hx
  refine va_newa (atype := .int) (ty := .int) (a0 := (N, .inl (fun _ => 0))) (N' := N) F.x F.b (F.w _ hw) rfl F.k hP hD hS (fun q h => Nat.le_trans F.base h) (fun cA => rfl) (nI_pos (by omega)) (nI_clamp (by omega)) (by simp [componentBytes]; omega) (by rw [F.r]; exact hcc.1) (by rw [F.r]; exact hcc.2) d (fun q cA H1 hK1 hP1 hD1 hS1 => ?_)
  have ec : cA = (gC Γ.1).1 := ra_eq (fun C h => by cases h) (hK1.2 4 (cA, .int) rfl).2 (F.k.2 0 _ rfl).2
  subst ec
  have hq := aN_new hD1
  rw [aN_push (kd := 11) (ln := N) hD1 (by rw [cE_i aN_K, aN_N, aN_I])] at hP1 hD1
  exact k9 q hq H1 locs ls hP1 hD1 hS1 hl
theorem g_newJ {x : Int32} {N : Nat} (F : Fx Γ own cc rm) (hw : Cond.arrayClass .long ∈ wsL_law) (hx : x = nI N) (hN : N < 100000) (hcc : c + 1 ≤ rm.1.cells ∧ n + N ≤ rm.1.slots) (d : decode cc pc = .ok (.newarray .long, 2)) (k9 : ∀ q, q ∉ pL S → G Γ (aN S q 12 N) (c + 1) (n + N) (pc + 2) L (.ref q :: st)) : G Γ S c n pc L (.int x :: st) := by
  intro H locs ls hP hD hS hl
  subst hx
  refine va_newa (atype := .long) (ty := .long) (a0 := (N, .inr (.inl (fun _ => 0)))) (N' := N) F.x F.b (F.w _ hw) rfl F.k hP hD hS (fun q h => Nat.le_trans F.base h) (fun cA => rfl) (nI_pos (by omega)) (nI_clamp (by omega)) (by simp [componentBytes]; omega) (by rw [F.r]; exact hcc.1) (by rw [F.r]; exact hcc.2) d (fun q cA H1 hK1 hP1 hD1 hS1 => ?_)
  have ec : cA = (gC Γ.1).2.1 := ra_eq (fun C h => by cases h) (hK1.2 4 (cA, .long) rfl).2 (F.k.2 1 _ rfl).2
  subst ec
  have hq := aN_new hD1
  rw [aN_push (kd := 12) (ln := N) hD1 (by rw [cE_j aN_K, aN_N, aN_J])] at hP1 hD1
  exact k9 q hq H1 locs ls hP1 hD1 hS1 hl
theorem g_newZ {x : Int32} {N : Nat} (F : Fx Γ own cc rm) (hw : Cond.arrayClass .boolean ∈ wsL_law) (hx : x = nI N) (hN : N < 100000) (hcc : c + 1 ≤ rm.1.cells ∧ n + N ≤ rm.1.slots) (d : decode cc pc = .ok (.newarray .boolean, 2)) (k9 : ∀ q, q ∉ pL S → G Γ (aN S q 13 N) (c + 1) (n + N) (pc + 2) L (.ref q :: st)) : G Γ S c n pc L (.int x :: st) := by
  intro H locs ls hP hD hS hl
  subst hx
  refine va_newa (atype := .boolean) (ty := .boolean) (a0 := (N, .inl (fun _ => 0))) (N' := N) F.x F.b (F.w _ hw) rfl F.k hP hD hS (fun q h => Nat.le_trans F.base h) (fun cA => rfl) (nI_pos (by omega)) (nI_clamp (by omega)) (by simp [componentBytes]; omega) (by rw [F.r]; exact hcc.1) (by rw [F.r]; exact hcc.2) d (fun q cA H1 hK1 hP1 hD1 hS1 => ?_)
  have ec : cA = (gC Γ.1).2.2.1 := ra_eq (fun C h => by cases h) (hK1.2 4 (cA, .boolean) rfl).2 (F.k.2 2 _ rfl).2
  subst ec
  have hq := aN_new hD1
  rw [aN_push (kd := 13) (ln := N) hD1 (by rw [cE_z aN_K, aN_N, aN_I])] at hP1 hD1
  exact k9 q hq H1 locs ls hP1 hD1 hS1 hl
theorem g_new {C : String} {T : u_T} {ty : Nat → FieldType} {N ci idx : Nat} (F : Fx Γ own cc rm) (hc : clOk ci C T N) (hty : ∀ k, k < N → parseFieldDescriptor (T k).2.2.1 = some (ty k)) (h1 : Cond.classLink own idx C ∈ wsL_law) (h2 : Cond.instantiable C N ∈ wsL_law) (h3 : Cond.initialized C ∈ wsL_law) (hft : ∀ k, k < N → defaultValue (ty k) = (if ft ci k = 0 then .int 0 else if ft ci k = 1 then .long 0 else .null)) (hcc : c + 1 ≤ rm.1.cells ∧ n + N ≤ rm.1.slots) (d : decode cc pc = .ok (.new idx, 3)) (k9 : ∀ q, q ∉ pL S → G Γ (aN S q ci 0) (c + 1) (n + N) (pc + 3) L (.ref q :: st)) : G Γ S c n pc L st := by
  intro H locs ls hP hD hS hl
  have hz : ∀ q, cF ci (aN S q ci 0) q = (List.range N).map (fun k => if ft ci k = 0 then Value.int 0 else if ft ci k = 1 then .long 0 else .null) := by
    intro q
    unfold cF
    rw [hc.2.1]
    apply List.map_congr_left
    intro k _
    simp [fv, aN_I, aN_J, aN_R, va_rf]
  refine va_new (fs := (List.range N).map (fun k => if ft ci k = 0 then Value.int 0 else if ft ci k = 1 then .long 0 else .null)) F.x F.b F.w hc.2.2.1 ty hty F.o (F.w _ h1) (F.w _ h2) (F.w _ h3) F.k hP hD hS (fun q h => Nat.le_trans F.base h) hc.1 (fun j hj => ?_) (by rw [F.r]; exact hcc.1) (by rw [F.r]; exact hcc.2) d (fun q H1 hP1 hD1 hS1 => ?_)
  · rw [hft j hj, vp_V, List.getD_eq_getElem?_getD, List.getElem?_map, List.getElem?_range hj]
    rfl
  · have hq := aN_new hD1
    rw [aN_push (kd := ci) (ln := 0) hD1 (by rw [cE_o (c := ci) aN_K hc.2.2.2.2, hz])] at hP1 hD1
    exact k9 q hq H1 locs ls hP1 hD1 hS1 hl
theorem g_objInit {idx a : Nat} (F : Fx Γ own cc rm) (h1 : Cond.methodLink own idx Lib.objectInit ∈ wsL_law) (h2 : Cond.instanceMethod Lib.objectInit ∈ wsL_law) (h3 : Cond.code Lib.objectInit ⟨#[0xb1]⟩ 1 none ∈ wsL_law) (hR : 1 ≤ rm.1.frames ∧ 2 * (F0 (km Γ) pc #[] (.ref a :: st)).monitorRoom + (st.map fun v => v.category).sum + 12 ≤ rm.1.locals) (d : decode cc pc = .ok (.invokespecial idx, 3)) (k9 : G Γ S c n (pc + 3) L st) : G Γ S c n pc L (.ref a :: st) := by
  intro H locs ls hP hD hS hl
  refine W.objInit F.x F.b F.o (F.w _ h1) (F.w _ h2) (F.w _ h3) rfl (by rw [F.ml]; exact hl.1) rfl d (by rw [F.r]; exact hR.1) (by rw [F.r]; exact hR.2) ?_
  exact W.eq (g2 := F0 (km Γ) (pc + 3) ls st) rfl (k9 H locs ls hP hD hS hl)
/-- static rows -/
theorem g_stat {i : Nat} {f : Nat → Int32} {nm host : String} {idx : Nat} (F : Fx Γ own cc rm) (he : va_Z RX9 nm "[I" (.ref (Γ.1.2.2.2.2.1 i)) (gA Γ.1) (ks Γ) (ks Γ).heap) (hlink : (Cond.fieldLink own idx RX9 nm "[I").before (ka Γ) (ks Γ) = true ∨ (Cond.fieldLinkNest own idx RX9 nm "[I" host).before (ka Γ) (ks Γ) = true) (d : decode cc pc = .ok (.getstatic idx, 3)) (k9 : G Γ S c n (pc + 3) L (.ref (Γ.1.2.2.2.2.1 i) :: st)) : G Γ S c n pc L st := by
  intro H locs ls hP hD hS hl
  rcases hlink with h | h
  · exact va_gets F.x F.b he hS F.o h (fun _ h9 => h9) d (k9 H locs ls hP hD hS hl)
  · exact va_getsN F.x F.b he hS F.o h (fun _ h9 => h9) d (k9 H locs ls hP hD hS hl)
theorem g_sald {t N j : Nat} {i : Int32} {f : Nat → Int32} (F : Fx Γ own cc rm) (hX : va_X t N f (ks Γ) (ks Γ).heap) (ht : t < Γ.1.2.2.2.1) (hi : i = nI j) (hj : j < N) (hN : N < 2 ^ 31) (d : decode cc pc = .ok (.iaload, 1)) (k9 : G Γ S c n (pc + 1) L (.int (f j) :: st)) : G Γ S c n pc L (.int i :: .ref t :: st) := by
  intro H locs ls hP hD hS hl
  subst hi
  have k8 := k9 H locs ls hP hD hS hl
  have e : f j = f (nI j).toNatClampNeg := by rw [nI_clamp (by omega)]
  rw [e] at k8
  exact va_sld F.x F.b hX (Nat.lt_of_lt_of_le ht F.base) (Nat.not_le.mpr ht) hS (vp_in_nI hj hN) d k8
theorem g_slen {t N : Nat} {f : Nat → Int32} (F : Fx Γ own cc rm) (hX : va_X t N f (ks Γ) (ks Γ).heap) (ht : t < Γ.1.2.2.2.1) (d : decode cc pc = .ok (.arraylength, 1)) (k9 : G Γ S c n (pc + 1) L (.int (nI N) :: st)) : G Γ S c n pc L (.ref t :: st) := by
  intro H locs ls hP hD hS hl
  exact va_slen F.x F.b hX (Nat.lt_of_lt_of_le ht F.base) (Nat.not_le.mpr ht) hS d (k9 H locs ls hP hD hS hl)
end RowsH
end
section
/-! CONTRACTS over the pool, and calls -/
abbrev Mt : Type := MethodName × ByteArray × Nat × Option FieldType × Nat × Nat × Nat
abbrev mws (M : Mt) : List Cond := Cond.code M.1 M.2.1 M.2.2.1 M.2.2.2.1 :: wsL_law
abbrev mrm (M : Mt) (mc ms : Nat) : Room := { frames := M.2.2.2.2.1, cells := mc, slots := ms, locals := M.2.2.2.2.2.1 }
theorem EnvP.warm {g : Glo} {s U : State} {H : Heap} {locs : List Loc} (h : EnvP g s s.heap) (hbs : g.2.2.2.1 ≤ s.heap.size) (hS : va_S (gA g) s.heap H locs) (hW : s.WarmedH U.vm) (hU : U.heap = H) : EnvP g U U.heap := by
  obtain ⟨h1, h2, ⟨a1, a2, a3⟩, ⟨b1, b2, b3⟩, ⟨c1, c2, c3⟩, h3, h4, h5, h6⟩ := h
  have hk : ∀ q : Nat, q < s.heap.size → ¬ gA g q → U.heap[q]? = s.heap[q]? := by rw [hU]; exact hS.2.1
  have hx : ∀ q : Nat, q < g.2.2.2.1 → U.heap[q]? = s.heap[q]? := fun q hq => hk q (Nat.lt_of_lt_of_le hq hbs) (Nat.not_le.mpr hq)
  refine ⟨fun w hw => ?_, fun w hw => ?_, ⟨(a1.moved hW.alike).kept hk, (a2.moved hW.alike).kept (hx _ a3), a3⟩, ⟨(b1.moved hW.alike).kept hk, (b2.moved hW.alike).kept (hx _ b3), b3⟩, ⟨(c1.moved hW.alike).kept hk, (c2.moved hW.alike).kept (hx _ c3), c3⟩, fun e he => (h3 e he).warm hW, (h4.moved hW.alike).kept hk, (h5.moved hW.alike).kept hk, h6⟩
  · have h0 := h1 w hw
    simp only [nestF, List.mem_cons, List.not_mem_nil, or_false] at hw
    rcases hw with rfl | rfl | rfl | rfl | rfl | rfl | rfl | rfl | rfl | rfl | rfl | rfl | rfl | rfl | rfl | rfl | rfl | rfl | rfl | rfl | rfl | rfl | rfl | rfl | rfl | rfl | rfl | rfl | rfl | rfl | rfl | rfl | rfl | rfl | rfl | rfl | rfl
    all_goals exact va_Nw.warmF hW h0
  · have h0 := h2 w hw
    simp only [nestM, List.mem_cons, List.not_mem_nil, or_false] at hw
    rcases hw with rfl | rfl | rfl | rfl | rfl | rfl | rfl | rfl | rfl | rfl | rfl | rfl | rfl | rfl | rfl | rfl | rfl | rfl | rfl | rfl | rfl | rfl | rfl | rfl | rfl | rfl | rfl | rfl | rfl | rfl | rfl | rfl | rfl | rfl | rfl | rfl | rfl | rfl | rfl | rfl | rfl | rfl | rfl | rfl | rfl | rfl | rfl | rfl | rfl | rfl | rfl | rfl | rfl | rfl | rfl | rfl | rfl | rfl | rfl | rfl | rfl | rfl | rfl | rfl
    all_goals exact va_Nw.warmM hW h0
theorem EnvP.same {g : Glo} {s U : State} (h : EnvP g s s.heap) (hv : s.vm = U.vm) (hh : U.heap = s.heap) : EnvP g U U.heap := by
  have hal : s.vm.Alike U.vm := by rw [hv]; exact Vm.Alike.refl _
  obtain ⟨h1, h2, ⟨a1, a2, a3⟩, ⟨b1, b2, b3⟩, ⟨c1, c2, c3⟩, h3, h4, h5, h6⟩ := h
  rw [hh]
  refine ⟨fun w hw => ?_, fun w hw => ?_, ⟨a1.moved hal, a2.moved hal, a3⟩, ⟨b1.moved hal, b2.moved hal, b3⟩, ⟨c1.moved hal, c2.moved hal, c3⟩, fun e he => (h3 e he).same hv.symm, h4.moved hal, h5.moved hal, h6⟩
  · have h0 := h1 w hw
    simp only [nestF, List.mem_cons, List.not_mem_nil, or_false] at hw
    rcases hw with rfl | rfl | rfl | rfl | rfl | rfl | rfl | rfl | rfl | rfl | rfl | rfl | rfl | rfl | rfl | rfl | rfl | rfl | rfl | rfl | rfl | rfl | rfl | rfl | rfl | rfl | rfl | rfl | rfl | rfl | rfl | rfl | rfl | rfl | rfl | rfl | rfl
    all_goals exact va_Nw.same rfl hv h0
  · have h0 := h2 w hw
    simp only [nestM, List.mem_cons, List.not_mem_nil, or_false] at hw
    rcases hw with rfl | rfl | rfl | rfl | rfl | rfl | rfl | rfl | rfl | rfl | rfl | rfl | rfl | rfl | rfl | rfl | rfl | rfl | rfl | rfl | rfl | rfl | rfl | rfl | rfl | rfl | rfl | rfl | rfl | rfl | rfl | rfl | rfl | rfl | rfl | rfl | rfl | rfl | rfl | rfl | rfl | rfl | rfl | rfl | rfl | rfl | rfl | rfl | rfl | rfl | rfl | rfl | rfl | rfl | rfl | rfl | rfl | rfl | rfl | rfl | rfl | rfl | rfl | rfl
    all_goals exact va_Nw.same rfl hv h0
/-- a method's start: the pool S, whole -/
def Pc9 (g : Glo) (args : List Value) (S : PS) : Array Value → State → Prop := va_Pc args (fun U => g.2.2.2.1 ≤ U.heap.size ∧ va_P (gD g) vwCl (mP (gC g) S) U.heap ∧ va_K (gD g) vwCl (mT (gC g)) U ∧ va_D (gA g) (mP (gC g) S) ∧ EnvP g U U.heap)
def Qc9 (g : Glo) (post : Option Value → PS → Prop) : Array Value → State → Outcome → State → Prop := fun _ st o t =>
  (∃ (v : Option Value) (S' : PS), o = .returned v ∧ post v S' ∧ va_P (gD g) vwCl (mP (gC g) S') t.heap ∧ va_D (gA g) (mP (gC g) S')) ∧ va_F (gA g) st t
def Xc9 (g : Glo) (px : String → PS → Prop) : String → State → State → Prop := fun E st t =>
  (∃ S' : PS, px E S' ∧ va_P (gD g) vwCl (mP (gC g) S') t.heap ∧ va_D (gA g) (mP (gC g) S')) ∧ va_F (gA g) st t
theorem Pc9_blind {g : Glo} {args : List Value} {S : PS} : FrameBlind (Pc9 g args S) := by
  intro a U gg mk h
  obtain ⟨h0, h1, h2, h3, h4, h5⟩ := h
  exact ⟨h0, h1, h2, va_K.moved (u := U) (U := U.calling gg mk a) (Vm.Alike.refl U.vm) h3, h4, EnvP.same (s := U) (U := U.calling gg mk a) h5 rfl rfl⟩
/-- contracts: Ct returns; Cx returns or throws -/
def Ct (g : Glo) (M : Mt) (mc ms : Nat) (args : List Value) (S : PS) (post : Option Value → PS → Prop) : Prop :=
  Met g.1 M.1 (mws M) (mrm M mc ms) (Pc9 g args S) (Qc9 g post) mc ms (gA g)
def Cx (g : Glo) (M : Mt) (mc ms : Nat) (args : List Value) (S : PS) (post : Option Value → PS → Prop) (px : String → PS → Prop) : Prop :=
  vx_Met g.1 M.1 (mws M) (mrm M mc ms) (Pc9 g args S) (Qc9 g post) (Xc9 g px) mc ms (gA g)
/-- where the frame's walk ends -/
def Rt (Γ : Ctx) (mc ms : Nat) (post : Option Value → PS → Prop) (ret : Option FieldType) (nm : String) : Prop :=
  kQ Γ = MQ (kb Γ) (Qc9 Γ.1 post) (ka Γ) (ks Γ) mc ms (gA Γ.1) ∧ (kM Γ).sig.returnType = ret ∧ (kM Γ).name = nm
def Rx (Γ : Ctx) (mc ms : Nat) (post : Option Value → PS → Prop) (px : String → PS → Prop) (ret : Option FieldType) (nm : String) : Prop :=
  kQ Γ = vx_MQ (kb Γ) (Qc9 Γ.1 post) (Xc9 Γ.1 px) (ka Γ) (ks Γ) mc ms (gA Γ.1) ∧ (kM Γ).sig.returnType = ret ∧ (kM Γ).name = nm ∧ ∀ x ∈ (kc Γ).exceptionTable.toList, False
theorem Ct.of {g : Glo} {M : Mt} {mc ms : Nat} {args : List Value} {S : PS} {post : Option Value → PS → Prop} (hy : plainName M.1.cls = true) (hlen : (lg_sl args).length ≤ M.2.2.1)
    (body : ∀ Γ : Ctx, Γ.1 = g → Fx Γ M.1.cls M.2.1 (mrm M mc ms, M.2.2.1) → Rt Γ mc ms post M.2.2.2.1 M.1.name → G Γ S 0 0 0 (lv_args 0 args) []) : Ct g M mc ms args S post := by
  refine Met.ofW (cc := M.2.1) (maxL := M.2.2.1) (ret := M.2.2.2.1) hy rfl ?_
  intro p e s m args' below meth c s₁ B hml hv
  obtain ⟨rfl, h1, h2, h3, h4, h5⟩ := hv
  have hts := atoms_spec (ws := mws M) B.pre
  have F : Fx (g, (p, e, mrm M mc ms, s, m, args.toArray, below, meth, c), MQ below (Qc9 g post) args.toArray s mc ms (gA g), M.2.2.1) M.1.cls M.2.1 (mrm M mc ms, M.2.2.1) :=
    ⟨B.exec, B.bytes, hml, findClass_of_methodNamed B.named, fun w hw => hts w (List.mem_cons_of_mem _ hw), B.notSynchronized, h5, h3, h1, rfl, rfl⟩
  have k := body _ rfl F ⟨rfl, B.returns, (name_of_methodNamed B.named B.method).1⟩
  rw [lg_entry_eq]
  exact k s.heap [] _ h2 h4 va_S.rf (lv_entry args hlen)
theorem Cx.of {g : Glo} {M : Mt} {mc ms : Nat} {args : List Value} {S : PS} {post : Option Value → PS → Prop} {px : String → PS → Prop} (hy : plainName M.1.cls = true) (hlen : (lg_sl args).length ≤ M.2.2.1)
    (body : ∀ Γ : Ctx, Γ.1 = g → Fx Γ M.1.cls M.2.1 (mrm M mc ms, M.2.2.1) → Rx Γ mc ms post px M.2.2.2.1 M.1.name → G Γ S 0 0 0 (lv_args 0 args) []) : Cx g M mc ms args S post px := by
  refine vx_ofW (cc := M.2.1) (maxL := M.2.2.1) (ret := M.2.2.2.1) hy rfl ?_
  intro p e s m args' below meth c s₁ B hml hnt hv
  obtain ⟨rfl, h1, h2, h3, h4, h5⟩ := hv
  have hts := atoms_spec (ws := mws M) B.pre
  have F : Fx (g, (p, e, mrm M mc ms, s, m, args.toArray, below, meth, c), vx_MQ below (Qc9 g post) (Xc9 g px) args.toArray s mc ms (gA g), M.2.2.1) M.1.cls M.2.1 (mrm M mc ms, M.2.2.1) :=
    ⟨B.exec, B.bytes, hml, findClass_of_methodNamed B.named, fun w hw => hts w (List.mem_cons_of_mem _ hw), B.notSynchronized, h5, h3, h1, rfl, rfl⟩
  have k := body _ rfl F ⟨rfl, B.returns, (name_of_methodNamed B.named B.method).1, hnt⟩
  rw [lg_entry_eq]
  exact k s.heap [] _ h2 h4 va_S.rf (lv_entry args hlen)
section RowsR
variable {Γ : Ctx} {own : String} {cc : ByteArray} {rm : Room × Nat} {S : PS} {c n pc mc ms : Nat} {L L' : List (Nat × Value)} {st : List Value} {post : Option Value → PS → Prop} {px : String → PS → Prop} {nm : String}
theorem Qc9.mk {S : PS} {H : Heap} {locs : List Loc} {v : Option Value} (hp : post v S) (hP : va_P (gD Γ.1) vwCl (mP (gC Γ.1) S) H) (hD : va_D (gA Γ.1) (mP (gC Γ.1) S)) (hS : va_S (gA Γ.1) (ks Γ).heap H locs) (t : State) (ht : t.heap = H) : Qc9 Γ.1 post (ka Γ) (ks Γ) (.returned v) t :=
  ⟨⟨v, S, rfl, hp, by rw [ht]; exact hP, hD⟩, hS.F ht⟩
theorem g_zret {ty : FieldType} {x : Int32} (F : Fx Γ own cc rm) (T : Rt Γ mc ms post (some ty) nm) (hn : narrow ty (.int x) = .int x) (hp : post (some (.int x)) S) (hc : c ≤ mc) (hs : n ≤ ms) (d : decode cc pc = .ok (.ireturn, 1)) : G Γ S c n pc L [.int x] := by
  intro H locs ls hP hD hS hl
  rw [T.1]
  exact W.widen hc hs (W.zret F.x F.b T.2.1 hn (fun t ht _ => Qc9.mk hp hP hD hS t ht) hS.2.2 d F.lk)
theorem g_iret {x : Int32} (F : Fx Γ own cc rm) (T : Rt Γ mc ms post (some .int) nm) (hp : post (some (.int x)) S) (hc : c ≤ mc) (hs : n ≤ ms) (d : decode cc pc = .ok (.ireturn, 1)) : G Γ S c n pc L [.int x] := g_zret F T rfl hp hc hs d
theorem g_lret {x : Int64} (F : Fx Γ own cc rm) (T : Rt Γ mc ms post (some .long) nm) (hp : post (some (.long x)) S) (hc : c ≤ mc) (hs : n ≤ ms) (d : decode cc pc = .ok (.lreturn, 1)) : G Γ S c n pc L [.long x] := by
  intro H locs ls hP hD hS hl
  rw [T.1]
  exact W.widen hc hs (W.lret F.x F.b T.2.1 (fun t ht _ => Qc9.mk hp hP hD hS t ht) hS.2.2 d F.lk)
theorem g_dret {x : UInt64} (F : Fx Γ own cc rm) (T : Rt Γ mc ms post (some .double) nm) (hp : post (some (.double x)) S) (hc : c ≤ mc) (hs : n ≤ ms) (d : decode cc pc = .ok (.dreturn, 1)) : G Γ S c n pc L [.double x] := by
  intro H locs ls hP hD hS hl
  rw [T.1]
  exact W.widen hc hs (W.dret F.x F.b T.2.1 (fun t ht _ => Qc9.mk hp hP hD hS t ht) hS.2.2 d F.lk)
theorem g_vret (F : Fx Γ own cc rm) (T : Rt Γ mc ms post none nm) (hp : post none S) (hc : c ≤ mc) (hs : n ≤ ms) (d : decode cc pc = .ok (.return_, 1)) : G Γ S c n pc L [] := by
  intro H locs ls hP hD hS hl
  rw [T.1]
  exact W.widen hc hs (W.vret F.x F.b T.2.1 (fun t ht _ => Qc9.mk hp hP hD hS t ht) hS.2.2 d F.lk)
theorem x_zret {ty : FieldType} {x : Int32} (F : Fx Γ own cc rm) (T : Rx Γ mc ms post px (some ty) nm) (hn : narrow ty (.int x) = .int x) (hp : post (some (.int x)) S) (hc : c ≤ mc) (hs : n ≤ ms) (d : decode cc pc = .ok (.ireturn, 1)) : G Γ S c n pc L [.int x] := by
  intro H locs ls hP hD hS hl
  rw [T.1]
  exact vx_ret (W.widen hc hs (W.zret F.x F.b T.2.1 hn (fun t ht _ => Qc9.mk hp hP hD hS t ht) hS.2.2 d F.lk))
theorem x_iret {x : Int32} (F : Fx Γ own cc rm) (T : Rx Γ mc ms post px (some .int) nm) (hp : post (some (.int x)) S) (hc : c ≤ mc) (hs : n ≤ ms) (d : decode cc pc = .ok (.ireturn, 1)) : G Γ S c n pc L [.int x] := x_zret F T rfl hp hc hs d
theorem x_lret {x : Int64} (F : Fx Γ own cc rm) (T : Rx Γ mc ms post px (some .long) nm) (hp : post (some (.long x)) S) (hc : c ≤ mc) (hs : n ≤ ms) (d : decode cc pc = .ok (.lreturn, 1)) : G Γ S c n pc L [.long x] := by
  intro H locs ls hP hD hS hl
  rw [T.1]
  exact vx_ret (W.widen hc hs (W.lret F.x F.b T.2.1 (fun t ht _ => Qc9.mk hp hP hD hS t ht) hS.2.2 d F.lk))
theorem x_vret (F : Fx Γ own cc rm) (T : Rx Γ mc ms post px none nm) (hp : post none S) (hc : c ≤ mc) (hs : n ≤ ms) (d : decode cc pc = .ok (.return_, 1)) : G Γ S c n pc L [] := by
  intro H locs ls hP hD hS hl
  rw [T.1]
  exact vx_ret (W.widen hc hs (W.vret F.x F.b T.2.1 (fun t ht _ => Qc9.mk hp hP hD hS t ht) hS.2.2 d F.lk))
end RowsR
/-- what the tables say of a method, beside its link at a call -/
def okV (M : Mt) (C : String) (ci : Nat) : Prop := M.1.cls = C ∧ (M.1.cls ≠ "java/lang/invoke/MethodHandle" ∧ M.1.cls ≠ "java/lang/invoke/VarHandle" ∧ (parseMethodDescriptor M.1.desc).map (fun d => d.parameters.length) = some M.2.2.2.2.2.2) ∧ Cond.code M.1 M.2.1 M.2.2.1 M.2.2.2.1 ∈ wsL_law ∧ Cond.instanceMethod M.1 ∈ wsL_law ∧ Cond.selects C M.1 M.1 ∈ wsL_law ∧ Cond.initialized M.1.cls ∈ wsL_law ∧ ∃ T N, clOk ci C T N
def okS (M : Mt) : Prop := (M.1.cls ≠ "java/lang/invoke/MethodHandle" ∧ M.1.cls ≠ "java/lang/invoke/VarHandle" ∧ (parseMethodDescriptor M.1.desc).map (fun d => d.parameters.length) = some M.2.2.2.2.2.2) ∧ Cond.code M.1 M.2.1 M.2.2.1 M.2.2.2.1 ∈ wsL_law ∧ Cond.static M.1 ∈ wsL_law ∧ Cond.initialized M.1.cls ∈ wsL_law
def okI (M : Mt) (C : String) (ci : Nat) : Prop := M.1.cls = C ∧ M.1.name = "<init>" ∧ M.2.2.2.1 = none ∧ (M.1.cls ≠ "java/lang/invoke/MethodHandle" ∧ M.1.cls ≠ "java/lang/invoke/VarHandle" ∧ (parseMethodDescriptor M.1.desc).map (fun d => d.parameters.length) = some M.2.2.2.2.2.2) ∧ Cond.code M.1 M.2.1 M.2.2.1 M.2.2.2.1 ∈ wsL_law ∧ Cond.instanceMethod M.1 ∈ wsL_law ∧ Cond.initialized M.1.cls ∈ wsL_law ∧ ∃ T N, clOk ci C T N
theorem wsL_law_good : wsL_law.all goodWord = true := by decide +kernel
theorem gi_law {w : Cond} {l : List Cond} (h : ∀ x ∈ l, x ∈ wsL_law) : GoodIn wsL_law l := fun w hw => ⟨h w hw, good_of_word (List.all_eq_true.mp wsL_law_good w (h w hw))⟩
theorem gi_mws {M : Mt} (h : Cond.code M.1 M.2.1 M.2.2.1 M.2.2.2.1 ∈ wsL_law) : GoodIn wsL_law (mws M) := gi_law (w := .code M.1 M.2.1 M.2.2.1 M.2.2.2.1) (fun x hx => by
  rcases List.mem_cons.mp hx with rfl | hx
  · exact h
  · exact hx)
abbrev rmFit (M : Mt) (rm : Room × Nat) : Prop := M.2.2.2.2.1 + 1 ≤ rm.1.frames ∧ 8 + (M.2.2.1 + 11) + M.2.2.2.2.2.1 ≤ rm.1.locals
theorem cb_of {Γ : Ctx} {own : String} {cc : ByteArray} {rm : Room × Nat} {M : Mt} {mc ms idx : Nat} (F : Fx Γ own cc rm) (hd : M.1.cls ≠ "java/lang/invoke/MethodHandle" ∧ M.1.cls ≠ "java/lang/invoke/VarHandle" ∧ (parseMethodDescriptor M.1.desc).map (fun d => d.parameters.length) = some M.2.2.2.2.2.2) (hcw : Cond.code M.1 M.2.1 M.2.2.1 M.2.2.2.1 ∈ wsL_law) (hi : Cond.initialized M.1.cls ∈ wsL_law) (hl : Cond.methodLink own idx M.1 ∈ wsL_law) (hR : rmFit M rm) :
    CallB (kR Γ) (ks Γ) (ka Γ) own idx M.1 M.2.1 M.2.2.1 M.2.2.2.1 (mws M) (mrm M mc ms) mc ms M.2.2.2.2.2.2 :=
  callB_of (Ts := wsL_law) M.2.2.2.2.2.2 F.w (gi_mws hcw) rfl rfl rfl (F.w _ hi) (F.w _ hl) hd (by rw [F.r]; exact hR)
theorem cn_of {Γ : Ctx} {own host : String} {cc : ByteArray} {rm : Room × Nat} {M : Mt} {mc ms idx : Nat} (F : Fx Γ own cc rm) (hd : M.1.cls ≠ "java/lang/invoke/MethodHandle" ∧ M.1.cls ≠ "java/lang/invoke/VarHandle" ∧ (parseMethodDescriptor M.1.desc).map (fun d => d.parameters.length) = some M.2.2.2.2.2.2) (hcw : Cond.code M.1 M.2.1 M.2.2.1 M.2.2.2.1 ∈ wsL_law) (hi : Cond.initialized M.1.cls ∈ wsL_law) (hl : Cond.methodLinkNest own idx M.1 host ∈ nestM) (hR : rmFit M rm) :
    va_CN (kR Γ) (ks Γ) (ka Γ) own idx M.1 host M.2.1 M.2.2.1 M.2.2.2.1 (mws M) (mrm M mc ms) mc ms M.2.2.2.2.2.2 :=
  va_cnB (Ts := wsL_law) M.2.2.2.2.2.2 F.w (gi_mws hcw) rfl rfl rfl (F.e.2.1 _ hl) (F.w _ hi) hd (by rw [F.r]; exact hR)
theorem pre_of {Γ : Ctx} {own : String} {cc : ByteArray} {rm : Room × Nat} {S : PS} {H : Heap} {locs : List Loc} {args : List Value} (F : Fx Γ own cc rm) (hP : va_P (gD Γ.1) vwCl (mP (gC Γ.1) S) H) (hD : va_D (gA Γ.1) (mP (gC Γ.1) S)) (hS : va_S (gA Γ.1) (ks Γ).heap H locs) (U : State) (hU : U.heap = H) (hW : (ks Γ).WarmedH U.vm) : Pc9 Γ.1 args S args.toArray U :=
  ⟨rfl, by rw [hU]; exact Nat.le_trans F.base hS.1, by rw [hU]; exact hP, va_K.moved hW.alike F.k, hD, EnvP.warm F.e F.base hS hW hU⟩
section RowsC
variable {Γ : Ctx} {own : String} {cc : ByteArray} {rm : Room × Nat} {S : PS} {c n pc mc ms idx : Nat} {L L' : List (Nat × Value)} {st stk : List Value} {post : Option Value → PS → Prop} {px : String → PS → Prop} {M : Mt}
/-- behind a call that returns -/
theorem g_behind {args : List Value} {H : Heap} {locs : List Loc} {ls : Array Slot} (hr : va_Run (kp Γ) Γ.1.1 (ke Γ) (kR Γ) (ks Γ) (km Γ) (ka Γ) (kb Γ) (kM Γ) (kc Γ) H locs c n mc ms (F0 (km Γ) pc ls stk) st (Qc9 Γ.1 post args.toArray) (gA Γ.1)) (hS : va_S (gA Γ.1) (ks Γ).heap H locs) (hl : lv_has ls (kn Γ) L)
    (kk : ∀ v S', post v S' → G Γ S' (c + mc) (n + ms) (pc + 3) L (v.toList ++ st)) : W (kp Γ) Γ.1.1 (ke Γ) (kR Γ) (ks Γ) (km Γ) (ka Γ) (kb Γ) (kM Γ) (kc Γ) H locs c n (kQ Γ) (F0 (km Γ) pc ls stk) := by
  intro T hT X
  obtain ⟨v, st₀, t, T', Lx, h0, X', hL, e1, e2, ⟨⟨v', S', hv, hp, hP', hD'⟩, hz, hk⟩, stp⟩ := hr T hT X
  cases hv
  rw [h0] at hz hk
  obtain ⟨t2, a1, b1⟩ := kk v S' hp T'.heap (locs ++ Lx) ls (by rw [e1]; exact hP') hD'
    ⟨Nat.le_trans hS.1 (by rw [e1]; exact hz), fun q h1 h2 => by rw [e1, hk q (Nat.lt_of_lt_of_le h1 hS.1) h2]; exact hS.2.1 q h1 h2, fun q hq => by
      rcases List.mem_append.mp hq with h | h
      · exact hS.2.2 q h
      · exact hL q h⟩ hl T' rfl X'
  exact ⟨t2, stp t2 a1, b1⟩
theorem g_callV {C : String} {b ci : Nat} {As : List Value} (F : Fx Γ own cc rm) (hM : Ct Γ.1 M mc ms (.ref b :: As) S post) (ok : okV M C ci) (hb : Is S.1 b ci) (hl : Cond.methodLink own idx M.1 ∈ wsL_law) (hR : rmFit M rm) (hn : As.length = M.2.2.2.2.2.2) (hst : stk = As.reverse ++ .ref b :: st) (hW : (st.map fun v => v.category).sum ≤ 8) (hf : c + mc ≤ rm.1.cells ∧ n + ms ≤ rm.1.slots) (d : decode cc pc = .ok (.invokevirtual idx, 3))
    (kk : ∀ v S', post v S' → G Γ S' (c + mc) (n + ms) (pc + 3) L (v.toList ++ st)) : G Γ S c n pc L stk := by
  intro H locs ls hP hD hS hl9
  obtain ⟨hC, hd, h1, h2, h3, h4, TT, NN, hcl⟩ := ok
  obtain ⟨q0, hq, -⟩ := mP_at (cy := gC Γ.1) (S := S) hb.1 (cE_o hb.2 hcl.2.2.2.2)
  refine g_behind (args := .ref b :: As) (va_runV (Ts := wsL_law) (own := own) (As := As) (C := C) ⟨F.x, F.b, F.ml, F.o, F.w⟩ hM ⟨cb_of F hd h1 h4 hl hR, F.w _ h2, F.w _ h3⟩ ⟨Pc9_blind, va_recv (q := (C, TT, NN)) F.k hP hcl.1 hq, pre_of F hP hD hS⟩ rfl hn hl9.1 hst (lv_room hW) d (by rw [F.r]; exact hf)) hS hl9 kk
theorem g_callVN {C host : String} {b ci : Nat} {As : List Value} (F : Fx Γ own cc rm) (hM : Ct Γ.1 M mc ms (.ref b :: As) S post) (ok : okV M C ci) (hb : Is S.1 b ci) (hl : Cond.methodLinkNest own idx M.1 host ∈ nestM) (hR : rmFit M rm) (hn : As.length = M.2.2.2.2.2.2) (hst : stk = As.reverse ++ .ref b :: st) (hW : (st.map fun v => v.category).sum ≤ 8) (hf : c + mc ≤ rm.1.cells ∧ n + ms ≤ rm.1.slots) (d : decode cc pc = .ok (.invokevirtual idx, 3))
    (kk : ∀ v S', post v S' → G Γ S' (c + mc) (n + ms) (pc + 3) L (v.toList ++ st)) : G Γ S c n pc L stk := by
  intro H locs ls hP hD hS hl9
  obtain ⟨hC, hd, h1, h2, h3, h4, TT, NN, hcl⟩ := ok
  obtain ⟨q0, hq, -⟩ := mP_at (cy := gC Γ.1) (S := S) hb.1 (cE_o hb.2 hcl.2.2.2.2)
  refine g_behind (args := .ref b :: As) (va_runVN (Ts := wsL_law) (own := own) (As := As) (C := C) ⟨F.x, F.b, F.ml, F.o, F.w⟩ hM ⟨cn_of F hd h1 h4 hl hR, F.w _ h2, F.w _ h3⟩ ⟨Pc9_blind, va_recv (q := (C, TT, NN)) F.k hP hcl.1 hq, pre_of F hP hD hS⟩ rfl hn hl9.1 hst (lv_room hW) d (by rw [F.r]; exact hf)) hS hl9 kk
theorem g_callS {As : List Value} (F : Fx Γ own cc rm) (hM : Ct Γ.1 M mc ms As S post) (ok : okS M) (hl : Cond.methodLink own idx M.1 ∈ wsL_law) (hR : rmFit M rm) (hn : As.length = M.2.2.2.2.2.2) (hst : stk = As.reverse ++ st) (hW : (st.map fun v => v.category).sum ≤ 8) (hf : c + mc ≤ rm.1.cells ∧ n + ms ≤ rm.1.slots) (d : decode cc pc = .ok (.invokestatic idx, 3))
    (kk : ∀ v S', post v S' → G Γ S' (c + mc) (n + ms) (pc + 3) L (v.toList ++ st)) : G Γ S c n pc L stk := by
  intro H locs ls hP hD hS hl9
  obtain ⟨hd, h1, h2, h4⟩ := ok
  refine g_behind (args := As) (va_runS (Ts := wsL_law) (own := own) (As := As) ⟨F.x, F.b, F.ml, F.o, F.w⟩ hM ⟨cb_of F hd h1 h4 hl hR, F.w _ h2⟩ ⟨Pc9_blind, pre_of F hP hD hS⟩ rfl hn hl9.1 hst (lv_room hW) d (by rw [F.r]; exact hf)) hS hl9 kk
theorem g_callSN {host : String} {As : List Value} (F : Fx Γ own cc rm) (hM : Ct Γ.1 M mc ms As S post) (ok : okS M) (hl : Cond.methodLinkNest own idx M.1 host ∈ nestM) (hR : rmFit M rm) (hn : As.length = M.2.2.2.2.2.2) (hst : stk = As.reverse ++ st) (hW : (st.map fun v => v.category).sum ≤ 8) (hf : c + mc ≤ rm.1.cells ∧ n + ms ≤ rm.1.slots) (d : decode cc pc = .ok (.invokestatic idx, 3))
    (kk : ∀ v S', post v S' → G Γ S' (c + mc) (n + ms) (pc + 3) L (v.toList ++ st)) : G Γ S c n pc L stk := by
  intro H locs ls hP hD hS hl9
  obtain ⟨hd, h1, h2, h4⟩ := ok
  refine g_behind (args := As) (va_runSN (Ts := wsL_law) (own := own) (As := As) ⟨F.x, F.b, F.ml, F.o, F.w⟩ hM ⟨cn_of F hd h1 h4 hl hR, F.w _ h2, trivial⟩ ⟨Pc9_blind, pre_of F hP hD hS⟩ rfl hn hl9.1 hst (lv_room hW) d (by rw [F.r]; exact hf)) hS hl9 kk
theorem g_callI {C : String} {b ci : Nat} {As : List Value} (F : Fx Γ own cc rm) (hM : Ct Γ.1 M mc ms (.ref b :: As) S post) (ok : okI M C ci) (hl : Cond.methodLink own idx M.1 ∈ wsL_law) (hR : rmFit M rm) (hn : As.length = M.2.2.2.2.2.2) (hst : stk = As.reverse ++ .ref b :: st) (hW : (st.map fun v => v.category).sum ≤ 8) (hf : c + mc ≤ rm.1.cells ∧ n + ms ≤ rm.1.slots) (d : decode cc pc = .ok (.invokespecial idx, 3))
    (kk : ∀ v S', post v S' → G Γ S' (c + mc) (n + ms) (pc + 3) L (v.toList ++ st)) : G Γ S c n pc L stk := by
  intro H locs ls hP hD hS hl9
  obtain ⟨hC, hin, hnone, hd, h1, h2, h4, -⟩ := ok
  have hcb := cb_of (mc := mc) (ms := ms) F hd h1 h4 hl hR
  rw [hnone] at hcb
  refine g_behind (args := .ref b :: As) (va_runI (Ts := wsL_law) (own := own) (As := As) ⟨F.x, F.b, F.ml, F.o, F.w⟩ hM ⟨hcb, hin, F.w _ h2⟩ ⟨Pc9_blind, pre_of F hP hD hS⟩ rfl hn hl9.1 hst (lv_room hW) d (by rw [F.r]; exact hf)) hS hl9 kk
theorem g_callIN {C host : String} {b ci : Nat} {As : List Value} (F : Fx Γ own cc rm) (hM : Ct Γ.1 M mc ms (.ref b :: As) S post) (ok : okI M C ci) (hl : Cond.methodLinkNest own idx M.1 host ∈ nestM) (hR : rmFit M rm) (hn : As.length = M.2.2.2.2.2.2) (hst : stk = As.reverse ++ .ref b :: st) (hW : (st.map fun v => v.category).sum ≤ 8) (hf : c + mc ≤ rm.1.cells ∧ n + ms ≤ rm.1.slots) (d : decode cc pc = .ok (.invokespecial idx, 3))
    (kk : ∀ v S', post v S' → G Γ S' (c + mc) (n + ms) (pc + 3) L (v.toList ++ st)) : G Γ S c n pc L stk := by
  intro H locs ls hP hD hS hl9
  obtain ⟨hC, hin, hnone, hd, h1, h2, h4, -⟩ := ok
  have hcb := cn_of (mc := mc) (ms := ms) F hd h1 h4 hl hR
  rw [hnone] at hcb
  refine g_behind (args := .ref b :: As) (va_runIN (Ts := wsL_law) (own := own) (As := As) ⟨F.x, F.b, F.ml, F.o, F.w⟩ hM ⟨hcb, hin, F.w _ h2⟩ ⟨Pc9_blind, pre_of F hP hD hS⟩ rfl hn hl9.1 hst (lv_room hW) d (by rw [F.r]; exact hf)) hS hl9 kk
end RowsC
end
section
theorem zz_probe : True := trivial
end
